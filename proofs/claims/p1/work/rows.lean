section
-- ===== PART A: goes FIRST, ahead of the names: the tables' words, and 'selects' of the private methods out of them =====
/-- a private method of a class that the tables say can be made, by its rows of tables_1 -/
def lw_okq (q : MethodName × Nat) : Prop := (q.1.cls ≠ "java/lang/invoke/MethodHandle" ∧ q.1.cls ≠ "java/lang/invoke/VarHandle") ∧ Cond.instantiable q.1.cls q.2 ∈ tables_1 ∧ Cond.privateMethod q.1 ∈ tables_1 ∧ Cond.instanceMethod q.1 ∈ tables_1
theorem lw_p0 : lw_okq (⟨"GroupLog$Sector", "headSum", "()I"⟩, 2) := ⟨⟨by decide +kernel, by decide +kernel⟩, List.mem_of_getElem? (i := 25) (by decide +kernel), List.mem_of_getElem? (i := 167) (by decide +kernel), List.mem_of_getElem? (i := 168) (by decide +kernel)⟩
theorem lw_p1 : lw_okq (⟨"GroupLog$Sector", "sumOver", "(III)I"⟩, 2) := ⟨⟨by decide +kernel, by decide +kernel⟩, List.mem_of_getElem? (i := 25) (by decide +kernel), List.mem_of_getElem? (i := 171) (by decide +kernel), List.mem_of_getElem? (i := 172) (by decide +kernel)⟩
theorem lw_p2 : lw_okq (⟨"GroupLog$Queue", "put", "(I)V"⟩, 4) := ⟨⟨by decide +kernel, by decide +kernel⟩, List.mem_of_getElem? (i := 56) (by decide +kernel), List.mem_of_getElem? (i := 231) (by decide +kernel), List.mem_of_getElem? (i := 232) (by decide +kernel)⟩
theorem lw_p3 : lw_okq (⟨"GroupLog", "writeQueue", "()I"⟩, 10) := ⟨⟨by decide +kernel, by decide +kernel⟩, List.mem_of_getElem? (i := 10) (by decide +kernel), List.mem_of_getElem? (i := 235) (by decide +kernel), List.mem_of_getElem? (i := 236) (by decide +kernel)⟩
theorem lw_p4 : lw_okq (⟨"GroupLog$Queue", "firstBeginFrom", "(I)I"⟩, 4) := ⟨⟨by decide +kernel, by decide +kernel⟩, List.mem_of_getElem? (i := 56) (by decide +kernel), List.mem_of_getElem? (i := 285) (by decide +kernel), List.mem_of_getElem? (i := 286) (by decide +kernel)⟩
theorem lw_p5 : lw_okq (⟨"GroupLog$Queue", "behindRecordAt", "(I)I"⟩, 4) := ⟨⟨by decide +kernel, by decide +kernel⟩, List.mem_of_getElem? (i := 56) (by decide +kernel), List.mem_of_getElem? (i := 289) (by decide +kernel), List.mem_of_getElem? (i := 290) (by decide +kernel)⟩
theorem lw_p6 : lw_okq (⟨"GroupLog$Queue", "get", "(I)I"⟩, 4) := ⟨⟨by decide +kernel, by decide +kernel⟩, List.mem_of_getElem? (i := 56) (by decide +kernel), List.mem_of_getElem? (i := 293) (by decide +kernel), List.mem_of_getElem? (i := 294) (by decide +kernel)⟩
theorem lw_p7 : lw_okq (⟨"GroupLog$Sector", "logSum", "()I"⟩, 2) := ⟨⟨by decide +kernel, by decide +kernel⟩, List.mem_of_getElem? (i := 25) (by decide +kernel), List.mem_of_getElem? (i := 303) (by decide +kernel), List.mem_of_getElem? (i := 304) (by decide +kernel)⟩
theorem lw_p8 : lw_okq (⟨"GroupLog", "writeDraft", "(I)Z"⟩, 10) := ⟨⟨by decide +kernel, by decide +kernel⟩, List.mem_of_getElem? (i := 10) (by decide +kernel), List.mem_of_getElem? (i := 307) (by decide +kernel), List.mem_of_getElem? (i := 308) (by decide +kernel)⟩
theorem lw_p9 : lw_okq (⟨"GroupLog$Sector", "takeBytes", "(LGroupLog$Sector;I)V"⟩, 2) := ⟨⟨by decide +kernel, by decide +kernel⟩, List.mem_of_getElem? (i := 25) (by decide +kernel), List.mem_of_getElem? (i := 319) (by decide +kernel), List.mem_of_getElem? (i := 320) (by decide +kernel)⟩
theorem lw_p10 : lw_okq (⟨"GroupLog", "powerGoes", "()V"⟩, 10) := ⟨⟨by decide +kernel, by decide +kernel⟩, List.mem_of_getElem? (i := 10) (by decide +kernel), List.mem_of_getElem? (i := 327) (by decide +kernel), List.mem_of_getElem? (i := 328) (by decide +kernel)⟩
theorem lw_p11 : lw_okq (⟨"GroupLog$Log", "beginOf", "(I)I"⟩, 8) := ⟨⟨by decide +kernel, by decide +kernel⟩, List.mem_of_getElem? (i := 78) (by decide +kernel), List.mem_of_getElem? (i := 373) (by decide +kernel), List.mem_of_getElem? (i := 374) (by decide +kernel)⟩
theorem lw_p12 : lw_okq (⟨"GroupLog", "writeHead", "(III)Z"⟩, 10) := ⟨⟨by decide +kernel, by decide +kernel⟩, List.mem_of_getElem? (i := 10) (by decide +kernel), List.mem_of_getElem? (i := 390) (by decide +kernel), List.mem_of_getElem? (i := 391) (by decide +kernel)⟩
theorem lw_p13 : lw_okq (⟨"GroupLog$Reader", "fits", "(LGroupLog$Sector;Z)Z"⟩, 5) := ⟨⟨by decide +kernel, by decide +kernel⟩, List.mem_of_getElem? (i := 123) (by decide +kernel), List.mem_of_getElem? (i := 437) (by decide +kernel), List.mem_of_getElem? (i := 438) (by decide +kernel)⟩
theorem lw_p14 : lw_okq (⟨"GroupLog$Reader", "lackingBefore", "(LGroupLog$Sector;)I"⟩, 5) := ⟨⟨by decide +kernel, by decide +kernel⟩, List.mem_of_getElem? (i := 123) (by decide +kernel), List.mem_of_getElem? (i := 446) (by decide +kernel), List.mem_of_getElem? (i := 447) (by decide +kernel)⟩
theorem lw_p15 : lw_okq (⟨"GroupLog$Reader", "takeRecords", "(LGroupLog$Log;LGroupLog$Sector;I)Z"⟩, 5) := ⟨⟨by decide +kernel, by decide +kernel⟩, List.mem_of_getElem? (i := 123) (by decide +kernel), List.mem_of_getElem? (i := 454) (by decide +kernel), List.mem_of_getElem? (i := 455) (by decide +kernel)⟩
def lw_privs_1 : List (MethodName × Nat) := [(⟨"GroupLog$Sector", "headSum", "()I"⟩, 2), (⟨"GroupLog$Sector", "sumOver", "(III)I"⟩, 2), (⟨"GroupLog$Queue", "put", "(I)V"⟩, 4), (⟨"GroupLog", "writeQueue", "()I"⟩, 10), (⟨"GroupLog$Queue", "firstBeginFrom", "(I)I"⟩, 4), (⟨"GroupLog$Queue", "behindRecordAt", "(I)I"⟩, 4), (⟨"GroupLog$Queue", "get", "(I)I"⟩, 4), (⟨"GroupLog$Sector", "logSum", "()I"⟩, 2), (⟨"GroupLog", "writeDraft", "(I)Z"⟩, 10), (⟨"GroupLog$Sector", "takeBytes", "(LGroupLog$Sector;I)V"⟩, 2), (⟨"GroupLog", "powerGoes", "()V"⟩, 10), (⟨"GroupLog$Log", "beginOf", "(I)I"⟩, 8), (⟨"GroupLog", "writeHead", "(III)Z"⟩, 10), (⟨"GroupLog$Reader", "fits", "(LGroupLog$Sector;Z)Z"⟩, 5), (⟨"GroupLog$Reader", "lackingBefore", "(LGroupLog$Sector;)I"⟩, 5), (⟨"GroupLog$Reader", "takeRecords", "(LGroupLog$Log;LGroupLog$Sector;I)Z"⟩, 5)]
theorem lw_r1 : ∀ q ∈ lw_privs_1, lw_okq q := List.forall_mem_cons.mpr ⟨lw_p0, List.forall_mem_cons.mpr ⟨lw_p1, List.forall_mem_cons.mpr ⟨lw_p2, List.forall_mem_cons.mpr ⟨lw_p3, List.forall_mem_cons.mpr ⟨lw_p4, List.forall_mem_cons.mpr ⟨lw_p5, List.forall_mem_cons.mpr ⟨lw_p6, List.forall_mem_cons.mpr ⟨lw_p7, List.forall_mem_cons.mpr ⟨lw_p8, List.forall_mem_cons.mpr ⟨lw_p9, List.forall_mem_cons.mpr ⟨lw_p10, List.forall_mem_cons.mpr ⟨lw_p11, List.forall_mem_cons.mpr ⟨lw_p12, List.forall_mem_cons.mpr ⟨lw_p13, List.forall_mem_cons.mpr ⟨lw_p14, List.forall_mem_cons.mpr ⟨lw_p15, fun _ h => absurd h List.not_mem_nil⟩⟩⟩⟩⟩⟩⟩⟩⟩⟩⟩⟩⟩⟩⟩⟩
theorem lw_p16 : lw_okq (⟨"GroupLog$Reader", "takeByte", "(LGroupLog$Log;III)V"⟩, 5) := ⟨⟨by decide +kernel, by decide +kernel⟩, List.mem_of_getElem? (i := 123) (by decide +kernel), List.mem_of_getElem? (i := 458) (by decide +kernel), List.mem_of_getElem? (i := 459) (by decide +kernel)⟩
theorem lw_p17 : lw_okq (⟨"GroupLog$Reader", "isNext", "(LGroupLog$Log;)Z"⟩, 5) := ⟨⟨by decide +kernel, by decide +kernel⟩, List.mem_of_getElem? (i := 123) (by decide +kernel), List.mem_of_getElem? (i := 462) (by decide +kernel), List.mem_of_getElem? (i := 463) (by decide +kernel)⟩
theorem lw_p18 : lw_okq (⟨"GroupLog$Reader", "frontBytes", "()I"⟩, 5) := ⟨⟨by decide +kernel, by decide +kernel⟩, List.mem_of_getElem? (i := 123) (by decide +kernel), List.mem_of_getElem? (i := 466) (by decide +kernel), List.mem_of_getElem? (i := 467) (by decide +kernel)⟩
theorem lw_p19 : lw_okq (⟨"GroupLog", "countWhileOn", "(I)I"⟩, 10) := ⟨⟨by decide +kernel, by decide +kernel⟩, List.mem_of_getElem? (i := 10) (by decide +kernel), List.mem_of_getElem? (i := 523) (by decide +kernel), List.mem_of_getElem? (i := 524) (by decide +kernel)⟩
theorem lw_p20 : lw_okq (⟨"GroupLogModel", "makeHead", "()V"⟩, 34) := ⟨⟨by decide +kernel, by decide +kernel⟩, List.mem_of_getElem? (i := 527) (by decide +kernel), List.mem_of_getElem? (i := 533) (by decide +kernel), List.mem_of_getElem? (i := 534) (by decide +kernel)⟩
theorem lw_p21 : lw_okq (⟨"GroupLogModel", "clear", "()V"⟩, 34) := ⟨⟨by decide +kernel, by decide +kernel⟩, List.mem_of_getElem? (i := 527) (by decide +kernel), List.mem_of_getElem? (i := 537) (by decide +kernel), List.mem_of_getElem? (i := 538) (by decide +kernel)⟩
theorem lw_p22 : lw_okq (⟨"GroupLogModel", "set", "(II)V"⟩, 34) := ⟨⟨by decide +kernel, by decide +kernel⟩, List.mem_of_getElem? (i := 527) (by decide +kernel), List.mem_of_getElem? (i := 541) (by decide +kernel), List.mem_of_getElem? (i := 542) (by decide +kernel)⟩
theorem lw_p23 : lw_okq (⟨"GroupLogModel", "used", "()I"⟩, 34) := ⟨⟨by decide +kernel, by decide +kernel⟩, List.mem_of_getElem? (i := 527) (by decide +kernel), List.mem_of_getElem? (i := 669) (by decide +kernel), List.mem_of_getElem? (i := 670) (by decide +kernel)⟩
theorem lw_p24 : lw_okq (⟨"GroupLogModel", "put", "(I)V"⟩, 34) := ⟨⟨by decide +kernel, by decide +kernel⟩, List.mem_of_getElem? (i := 527) (by decide +kernel), List.mem_of_getElem? (i := 673) (by decide +kernel), List.mem_of_getElem? (i := 674) (by decide +kernel)⟩
theorem lw_p25 : lw_okq (⟨"GroupLogModel", "flushAll", "()I"⟩, 34) := ⟨⟨by decide +kernel, by decide +kernel⟩, List.mem_of_getElem? (i := 527) (by decide +kernel), List.mem_of_getElem? (i := 677) (by decide +kernel), List.mem_of_getElem? (i := 678) (by decide +kernel)⟩
theorem lw_p26 : lw_okq (⟨"GroupLogModel", "write", "(I)Z"⟩, 34) := ⟨⟨by decide +kernel, by decide +kernel⟩, List.mem_of_getElem? (i := 527) (by decide +kernel), List.mem_of_getElem? (i := 684) (by decide +kernel), List.mem_of_getElem? (i := 685) (by decide +kernel)⟩
theorem lw_p27 : lw_okq (⟨"GroupLogModel", "goOff", "()V"⟩, 34) := ⟨⟨by decide +kernel, by decide +kernel⟩, List.mem_of_getElem? (i := 527) (by decide +kernel), List.mem_of_getElem? (i := 688) (by decide +kernel), List.mem_of_getElem? (i := 689) (by decide +kernel)⟩
theorem lw_p28 : lw_okq (⟨"GroupLogModel", "numberAt", "(I)I"⟩, 34) := ⟨⟨by decide +kernel, by decide +kernel⟩, List.mem_of_getElem? (i := 527) (by decide +kernel), List.mem_of_getElem? (i := 704) (by decide +kernel), List.mem_of_getElem? (i := 705) (by decide +kernel)⟩
theorem lw_p29 : lw_okq (⟨"GroupLogModel", "isGood", "(I)Z"⟩, 34) := ⟨⟨by decide +kernel, by decide +kernel⟩, List.mem_of_getElem? (i := 527) (by decide +kernel), List.mem_of_getElem? (i := 720) (by decide +kernel), List.mem_of_getElem? (i := 721) (by decide +kernel)⟩
theorem lw_p30 : lw_okq (⟨"GroupLogModel", "isLog", "(IIZ)Z"⟩, 34) := ⟨⟨by decide +kernel, by decide +kernel⟩, List.mem_of_getElem? (i := 527) (by decide +kernel), List.mem_of_getElem? (i := 726) (by decide +kernel), List.mem_of_getElem? (i := 727) (by decide +kernel)⟩
theorem lw_p31 : lw_okq (⟨"GroupLogModel", "fits", "(IZ)Z"⟩, 34) := ⟨⟨by decide +kernel, by decide +kernel⟩, List.mem_of_getElem? (i := 527) (by decide +kernel), List.mem_of_getElem? (i := 730) (by decide +kernel), List.mem_of_getElem? (i := 731) (by decide +kernel)⟩
def lw_privs_2 : List (MethodName × Nat) := [(⟨"GroupLog$Reader", "takeByte", "(LGroupLog$Log;III)V"⟩, 5), (⟨"GroupLog$Reader", "isNext", "(LGroupLog$Log;)Z"⟩, 5), (⟨"GroupLog$Reader", "frontBytes", "()I"⟩, 5), (⟨"GroupLog", "countWhileOn", "(I)I"⟩, 10), (⟨"GroupLogModel", "makeHead", "()V"⟩, 34), (⟨"GroupLogModel", "clear", "()V"⟩, 34), (⟨"GroupLogModel", "set", "(II)V"⟩, 34), (⟨"GroupLogModel", "used", "()I"⟩, 34), (⟨"GroupLogModel", "put", "(I)V"⟩, 34), (⟨"GroupLogModel", "flushAll", "()I"⟩, 34), (⟨"GroupLogModel", "write", "(I)Z"⟩, 34), (⟨"GroupLogModel", "goOff", "()V"⟩, 34), (⟨"GroupLogModel", "numberAt", "(I)I"⟩, 34), (⟨"GroupLogModel", "isGood", "(I)Z"⟩, 34), (⟨"GroupLogModel", "isLog", "(IIZ)Z"⟩, 34), (⟨"GroupLogModel", "fits", "(IZ)Z"⟩, 34)]
theorem lw_r2 : ∀ q ∈ lw_privs_2, lw_okq q := List.forall_mem_cons.mpr ⟨lw_p16, List.forall_mem_cons.mpr ⟨lw_p17, List.forall_mem_cons.mpr ⟨lw_p18, List.forall_mem_cons.mpr ⟨lw_p19, List.forall_mem_cons.mpr ⟨lw_p20, List.forall_mem_cons.mpr ⟨lw_p21, List.forall_mem_cons.mpr ⟨lw_p22, List.forall_mem_cons.mpr ⟨lw_p23, List.forall_mem_cons.mpr ⟨lw_p24, List.forall_mem_cons.mpr ⟨lw_p25, List.forall_mem_cons.mpr ⟨lw_p26, List.forall_mem_cons.mpr ⟨lw_p27, List.forall_mem_cons.mpr ⟨lw_p28, List.forall_mem_cons.mpr ⟨lw_p29, List.forall_mem_cons.mpr ⟨lw_p30, List.forall_mem_cons.mpr ⟨lw_p31, fun _ h => absurd h List.not_mem_nil⟩⟩⟩⟩⟩⟩⟩⟩⟩⟩⟩⟩⟩⟩⟩⟩
theorem lw_p32 : lw_okq (⟨"GroupLogModel", "read", "(IIII)V"⟩, 34) := ⟨⟨by decide +kernel, by decide +kernel⟩, List.mem_of_getElem? (i := 527) (by decide +kernel), List.mem_of_getElem? (i := 734) (by decide +kernel), List.mem_of_getElem? (i := 735) (by decide +kernel)⟩
theorem lw_p33 : lw_okq (⟨"GroupLogModel", "lacks", "()I"⟩, 34) := ⟨⟨by decide +kernel, by decide +kernel⟩, List.mem_of_getElem? (i := 527) (by decide +kernel), List.mem_of_getElem? (i := 738) (by decide +kernel), List.mem_of_getElem? (i := 739) (by decide +kernel)⟩
def lw_privs_3 : List (MethodName × Nat) := [(⟨"GroupLogModel", "read", "(IIII)V"⟩, 34), (⟨"GroupLogModel", "lacks", "()I"⟩, 34)]
theorem lw_r3 : ∀ q ∈ lw_privs_3, lw_okq q := List.forall_mem_cons.mpr ⟨lw_p32, List.forall_mem_cons.mpr ⟨lw_p33, fun _ h => absurd h List.not_mem_nil⟩⟩
def lw_privs : List (MethodName × Nat) := lw_privs_1 ++ (lw_privs_2 ++ (lw_privs_3))
def lw_tbl : List Cond := k2_sels lw_privs ++ tables_1
theorem lw_privs_ok : ∀ q ∈ lw_privs, lw_okq q := by
  show ∀ q ∈ lw_privs_1 ++ (lw_privs_2 ++ (lw_privs_3)), lw_okq q
  exact List.forall_mem_append.mpr ⟨lw_r1, List.forall_mem_append.mpr ⟨lw_r2, lw_r3⟩⟩
-- ===== end of PART A; then your names; then what follows =====
end
section
/-! ===== BEGIN words of one list among another's, by their places ===== -/
theorem goodIn_r {big : List Cond} (ws : List Cond) (ps : List Nat) (hp : ws = ps.filterMap (fun i => big[i]?)) (h : ws.all goodWord = true) : GoodIn big ws := by
  intro w hw
  have h1 := List.all_eq_true.mp h w hw
  rw [hp] at hw
  obtain ⟨i, -, hi⟩ := List.mem_filterMap.mp hw
  have hm : w ∈ big := by first | exact List.mem_of_getElem? hi | exact List.getElem?_mem hi
  exact ⟨hm, good_of_word h1⟩
theorem goodIn_app {big a b : List Cond} (ha : GoodIn big a) (hb : GoodIn big b) : GoodIn big (a ++ b) := fun w h => (List.mem_append.mp h).elim (ha w) (hb w)
theorem goodIn_ca {big a b : List Cond} {c : Cond} (ha : GoodIn big (c :: a)) (hb : GoodIn big b) : GoodIn big (c :: (a ++ b)) := fun w h => (List.mem_cons.mp h).elim (fun e => ha w (List.mem_cons.mpr (Or.inl e))) (fun h => (List.mem_append.mp h).elim (fun h => ha w (List.mem_cons.mpr (Or.inr h))) (hb w))
theorem goodIn_sub {big ws : List Cond} (hm : ∀ w ∈ ws, w ∈ big) (h : ws.all goodWord = true) : GoodIn big ws := fun w hw => ⟨hm w hw, good_of_word (List.all_eq_true.mp h w hw)⟩
/-! ===== END ===== -/

/-! ===== BEGIN printed: names, fields, word lists, decode rows ===== -/
def RX0 : String := "GroupLog$Log"
def TX0 : u_T := fun k => match k with
  | 0 => ("GroupLog$Log", "begins", "[I", true)
  | 1 => ("GroupLog$Log", "firstRecord", "I", false)
  | 2 => ("GroupLog$Log", "keptFrom", "I", false)
  | 3 => ("GroupLog$Log", "lastSafe", "I", false)
  | 4 => ("GroupLog$Log", "firstPlace", "I", false)
  | 5 => ("GroupLog$Log", "used", "I", false)
  | 6 => ("GroupLog$Log", "nextPlace", "I", false)
  | _ => ("GroupLog$Log", "nextSerial", "I", false)
def tyX0 : Nat → FieldType := fun k => match k with
  | 0 => .array .int
  | 1 => .int
  | 2 => .int
  | 3 => .int
  | 4 => .int
  | 5 => .int
  | 6 => .int
  | _ => .int
abbrev wsX00 : List Cond := u_ws RX0 TX0 8
theorem nmX0 : ∀ a, a < 8 → ∀ b, b < 8 → a ≠ b → (TX0 a).2.1 ≠ (TX0 b).2.1 := by decide +kernel
theorem tyX0_ok : ∀ k, k < 8 → parseFieldDescriptor (TX0 k).2.2.1 = some (tyX0 k) := by decide +kernel
abbrev cX0_init : ByteArray := prog_2_method_1_code
def yX0_init : MethodName := ⟨RX0, "<init>", "()V"⟩
abbrev cX0_openAt : ByteArray := prog_2_method_2_code
def yX0_openAt : MethodName := ⟨RX0, "openAt", "(III)V"⟩
abbrev cX0_advance : ByteArray := prog_2_method_3_code
def yX0_advance : MethodName := ⟨RX0, "advance", "(I)V"⟩
abbrev cX0_addSafe : ByteArray := prog_2_method_4_code
def yX0_addSafe : MethodName := ⟨RX0, "addSafe", "(II)V"⟩
abbrev cX0_has : ByteArray := prog_2_method_5_code
def yX0_has : MethodName := ⟨RX0, "has", "(I)Z"⟩
abbrev cX0_slotOf : ByteArray := prog_2_method_6_code
def yX0_slotOf : MethodName := ⟨RX0, "slotOf", "(I)I"⟩
abbrev cX0_beginOf : ByteArray := prog_2_method_7_code
def yX0_beginOf : MethodName := ⟨RX0, "beginOf", "(I)I"⟩
abbrev cX0_placeOf : ByteArray := prog_2_method_8_code
def yX0_placeOf : MethodName := ⟨RX0, "placeOf", "(I)I"⟩
abbrev cX0_firstBeginningWith : ByteArray := prog_2_method_9_code
def yX0_firstBeginningWith : MethodName := ⟨RX0, "firstBeginningWith", "(I)I"⟩
abbrev cX0_giveUpBefore : ByteArray := prog_2_method_10_code
def yX0_giveUpBefore : MethodName := ⟨RX0, "giveUpBefore", "(III)I"⟩
abbrev cX0_dataBytes : ByteArray := prog_2_method_11_code
def yX0_dataBytes : MethodName := ⟨RX0, "dataBytes", "(LGroupLog$Store;I)I"⟩
abbrev cX0_byteOf : ByteArray := prog_2_method_12_code
def yX0_byteOf : MethodName := ⟨RX0, "byteOf", "(LGroupLog$Store;II)I"⟩
def RX1 : String := "GroupLog$Queue"
def TX1 : u_T := fun k => match k with
  | 0 => ("GroupLog$Queue", "bytes", "[I", true)
  | 1 => ("GroupLog$Queue", "length", "I", false)
  | 2 => ("GroupLog$Queue", "records", "I", false)
  | _ => ("GroupLog$Queue", "waited", "I", false)
def tyX1 : Nat → FieldType := fun k => match k with
  | 0 => .array .int
  | 1 => .int
  | 2 => .int
  | _ => .int
abbrev wsX10 : List Cond := u_ws RX1 TX1 4
theorem nmX1 : ∀ a, a < 4 → ∀ b, b < 4 → a ≠ b → (TX1 a).2.1 ≠ (TX1 b).2.1 := by decide +kernel
theorem tyX1_ok : ∀ k, k < 4 → parseFieldDescriptor (TX1 k).2.2.1 = some (tyX1 k) := by decide +kernel
abbrev cX1_init : ByteArray := prog_3_method_1_code
def yX1_init : MethodName := ⟨RX1, "<init>", "()V"⟩
abbrev cX1_empty : ByteArray := prog_3_method_2_code
def yX1_empty : MethodName := ⟨RX1, "empty", "()V"⟩
abbrev cX1_sectorsWith : ByteArray := prog_3_method_3_code
def yX1_sectorsWith : MethodName := ⟨RX1, "sectorsWith", "(I)I"⟩
abbrev cX1_add : ByteArray := prog_3_method_4_code
def yX1_add : MethodName := ⟨RX1, "add", "(I[II)V"⟩
abbrev cX1_put : ByteArray := prog_3_method_5_code
def yX1_put : MethodName := ⟨RX1, "put", "(I)V"⟩
abbrev cX1_get : ByteArray := prog_3_method_6_code
def yX1_get : MethodName := ⟨RX1, "get", "(I)I"⟩
abbrev cX1_behindRecordAt : ByteArray := prog_3_method_7_code
def yX1_behindRecordAt : MethodName := ⟨RX1, "behindRecordAt", "(I)I"⟩
abbrev cX1_firstBeginFrom : ByteArray := prog_3_method_8_code
def yX1_firstBeginFrom : MethodName := ⟨RX1, "firstBeginFrom", "(I)I"⟩
abbrev cX1_fill : ByteArray := prog_3_method_9_code
def yX1_fill : MethodName := ⟨RX1, "fill", "(LGroupLog$Sector;I)V"⟩
abbrev cX1_tellTo : ByteArray := prog_3_method_10_code
def yX1_tellTo : MethodName := ⟨RX1, "tellTo", "(LGroupLog$Log;I)V"⟩
def RX2 : String := "GroupLog$Reader"
def TX2 : u_T := fun k => match k with
  | 0 => ("GroupLog$Reader", "front", "[I", true)
  | 1 => ("GroupLog$Reader", "have", "I", false)
  | 2 => ("GroupLog$Reader", "beginPlace", "I", false)
  | 3 => ("GroupLog$Reader", "beginOffset", "I", false)
  | _ => ("GroupLog$Reader", "ended", "Z", false)
def tyX2 : Nat → FieldType := fun k => match k with
  | 0 => .array .int
  | 1 => .int
  | 2 => .int
  | 3 => .int
  | _ => .boolean
abbrev wsX20 : List Cond := u_ws RX2 TX2 5
theorem nmX2 : ∀ a, a < 5 → ∀ b, b < 5 → a ≠ b → (TX2 a).2.1 ≠ (TX2 b).2.1 := by decide +kernel
theorem tyX2_ok : ∀ k, k < 5 → parseFieldDescriptor (TX2 k).2.2.1 = some (tyX2 k) := by decide +kernel
abbrev cX2_init : ByteArray := prog_4_method_1_code
def yX2_init : MethodName := ⟨RX2, "<init>", "()V"⟩
abbrev cX2_readInto : ByteArray := prog_4_method_2_code
def yX2_readInto : MethodName := ⟨RX2, "readInto", "(LGroupLog$Log;LGroupLog$Store;)V"⟩
abbrev cX2_fits : ByteArray := prog_4_method_3_code
def yX2_fits : MethodName := ⟨RX2, "fits", "(LGroupLog$Sector;Z)Z"⟩
abbrev cX2_lackingBefore : ByteArray := prog_4_method_4_code
def yX2_lackingBefore : MethodName := ⟨RX2, "lackingBefore", "(LGroupLog$Sector;)I"⟩
abbrev cX2_takeRecords : ByteArray := prog_4_method_5_code
def yX2_takeRecords : MethodName := ⟨RX2, "takeRecords", "(LGroupLog$Log;LGroupLog$Sector;I)Z"⟩
abbrev cX2_takeByte : ByteArray := prog_4_method_6_code
def yX2_takeByte : MethodName := ⟨RX2, "takeByte", "(LGroupLog$Log;III)V"⟩
abbrev cX2_isNext : ByteArray := prog_4_method_7_code
def yX2_isNext : MethodName := ⟨RX2, "isNext", "(LGroupLog$Log;)Z"⟩
abbrev cX2_frontBytes : ByteArray := prog_4_method_8_code
def yX2_frontBytes : MethodName := ⟨RX2, "frontBytes", "()I"⟩
def RX3 : String := "GroupLog$Sector"
def TX3 : u_T := fun k => match k with
  | 0 => ("GroupLog$Sector", "bytes", "[I", true)
  | _ => ("GroupLog$Sector", "isTorn", "Z", false)
def tyX3 : Nat → FieldType := fun k => match k with
  | 0 => .array .int
  | _ => .boolean
abbrev wsX30 : List Cond := u_ws RX3 TX3 2
theorem nmX3 : ∀ a, a < 2 → ∀ b, b < 2 → a ≠ b → (TX3 a).2.1 ≠ (TX3 b).2.1 := by decide +kernel
theorem tyX3_ok : ∀ k, k < 2 → parseFieldDescriptor (TX3 k).2.2.1 = some (tyX3 k) := by decide +kernel
abbrev cX3_init : ByteArray := prog_5_method_1_code
def yX3_init : MethodName := ⟨RX3, "<init>", "()V"⟩
abbrev cX3_get : ByteArray := prog_5_method_2_code
def yX3_get : MethodName := ⟨RX3, "get", "(I)I"⟩
abbrev cX3_set : ByteArray := prog_5_method_3_code
def yX3_set : MethodName := ⟨RX3, "set", "(II)V"⟩
abbrev cX3_number : ByteArray := prog_5_method_4_code
def yX3_number : MethodName := ⟨RX3, "number", "(I)I"⟩
abbrev cX3_setNumber : ByteArray := prog_5_method_5_code
def yX3_setNumber : MethodName := ⟨RX3, "setNumber", "(II)V"⟩
abbrev cX3_clear : ByteArray := prog_5_method_6_code
def yX3_clear : MethodName := ⟨RX3, "clear", "()V"⟩
abbrev cX3_takeWhole : ByteArray := prog_5_method_7_code
def yX3_takeWhole : MethodName := ⟨RX3, "takeWhole", "(LGroupLog$Sector;)V"⟩
abbrev cX3_takePart : ByteArray := prog_5_method_8_code
def yX3_takePart : MethodName := ⟨RX3, "takePart", "(LGroupLog$Sector;I)V"⟩
abbrev cX3_takeBytes : ByteArray := prog_5_method_9_code
def yX3_takeBytes : MethodName := ⟨RX3, "takeBytes", "(LGroupLog$Sector;I)V"⟩
abbrev cX3_sumOver : ByteArray := prog_5_method_10_code
def yX3_sumOver : MethodName := ⟨RX3, "sumOver", "(III)I"⟩
abbrev cX3_headSum : ByteArray := prog_5_method_11_code
def yX3_headSum : MethodName := ⟨RX3, "headSum", "()I"⟩
abbrev cX3_logSum : ByteArray := prog_5_method_12_code
def yX3_logSum : MethodName := ⟨RX3, "logSum", "()I"⟩
abbrev cX3_makeHead : ByteArray := prog_5_method_13_code
def yX3_makeHead : MethodName := ⟨RX3, "makeHead", "(IIII)V"⟩
abbrev cX3_isGoodHead : ByteArray := prog_5_method_14_code
def yX3_isGoodHead : MethodName := ⟨RX3, "isGoodHead", "()Z"⟩
abbrev cX3_headVersion : ByteArray := prog_5_method_15_code
def yX3_headVersion : MethodName := ⟨RX3, "headVersion", "()I"⟩
abbrev cX3_headSerial : ByteArray := prog_5_method_16_code
def yX3_headSerial : MethodName := ⟨RX3, "headSerial", "()I"⟩
abbrev cX3_headRecord : ByteArray := prog_5_method_17_code
def yX3_headRecord : MethodName := ⟨RX3, "headRecord", "()I"⟩
abbrev cX3_headPlace : ByteArray := prog_5_method_18_code
def yX3_headPlace : MethodName := ⟨RX3, "headPlace", "()I"⟩
abbrev cX3_sealLog : ByteArray := prog_5_method_19_code
def yX3_sealLog : MethodName := ⟨RX3, "sealLog", "(II)V"⟩
abbrev cX3_isSoundLog : ByteArray := prog_5_method_20_code
def yX3_isSoundLog : MethodName := ⟨RX3, "isSoundLog", "()Z"⟩
abbrev cX3_serial : ByteArray := prog_5_method_21_code
def yX3_serial : MethodName := ⟨RX3, "serial", "()I"⟩
abbrev cX3_logBytes : ByteArray := prog_5_method_22_code
def yX3_logBytes : MethodName := ⟨RX3, "logBytes", "()I"⟩
abbrev cX3_logBegin : ByteArray := prog_5_method_23_code
def yX3_logBegin : MethodName := ⟨RX3, "logBegin", "()I"⟩
abbrev cX3_logVersion : ByteArray := prog_5_method_24_code
def yX3_logVersion : MethodName := ⟨RX3, "logVersion", "()I"⟩
abbrev cX3_logByte : ByteArray := prog_5_method_25_code
def yX3_logByte : MethodName := ⟨RX3, "logByte", "(I)I"⟩
def RX4 : String := "GroupLog$Store"
def TX4 : u_T := fun k => match k with
  | 0 => ("GroupLog$Store", "sectors", "[LGroupLog$Sector;", true)
  | 1 => ("GroupLog$Store", "steps", "I", false)
  | 2 => ("GroupLog$Store", "stepsLeft", "I", false)
  | _ => ("GroupLog$Store", "part", "I", false)
def tyX4 : Nat → FieldType := fun k => match k with
  | 0 => .array (.object "GroupLog$Sector")
  | 1 => .int
  | 2 => .int
  | _ => .int
abbrev wsX40 : List Cond := u_ws RX4 TX4 4
theorem nmX4 : ∀ a, a < 4 → ∀ b, b < 4 → a ≠ b → (TX4 a).2.1 ≠ (TX4 b).2.1 := by decide +kernel
theorem tyX4_ok : ∀ k, k < 4 → parseFieldDescriptor (TX4 k).2.2.1 = some (tyX4 k) := by decide +kernel
abbrev cX4_init : ByteArray := prog_6_method_1_code
def yX4_init : MethodName := ⟨RX4, "<init>", "()V"⟩
abbrev cX4_sector : ByteArray := prog_6_method_2_code
def yX4_sector : MethodName := ⟨RX4, "sector", "(I)LGroupLog$Sector;"⟩
abbrev cX4_write : ByteArray := prog_6_method_3_code
def yX4_write : MethodName := ⟨RX4, "write", "(ILGroupLog$Sector;)Z"⟩
abbrev cX4_latestHead : ByteArray := prog_6_method_4_code
def yX4_latestHead : MethodName := ⟨RX4, "latestHead", "()I"⟩
abbrev cX4_headVersion : ByteArray := prog_6_method_5_code
def yX4_headVersion : MethodName := ⟨RX4, "headVersion", "()I"⟩
def RX5 : String := "GroupLog"
def TX5 : u_T := fun k => match k with
  | 0 => ("GroupLog", "store", "LGroupLog$Store;", true)
  | 1 => ("GroupLog", "queue", "LGroupLog$Queue;", true)
  | 2 => ("GroupLog", "log", "LGroupLog$Log;", true)
  | 3 => ("GroupLog", "reader", "LGroupLog$Reader;", true)
  | 4 => ("GroupLog", "draft", "LGroupLog$Sector;", true)
  | 5 => ("GroupLog", "tape", "[I", true)
  | 6 => ("GroupLog", "tapeBytes", "I", false)
  | 7 => ("GroupLog", "delayTicks", "I", false)
  | 8 => ("GroupLog", "flushes", "I", false)
  | _ => ("GroupLog", "on", "Z", false)
def tyX5 : Nat → FieldType := fun k => match k with
  | 0 => .object "GroupLog$Store"
  | 1 => .object "GroupLog$Queue"
  | 2 => .object "GroupLog$Log"
  | 3 => .object "GroupLog$Reader"
  | 4 => .object "GroupLog$Sector"
  | 5 => .array .int
  | 6 => .int
  | 7 => .int
  | 8 => .int
  | _ => .boolean
abbrev wsX50 : List Cond := u_ws RX5 TX5 10
theorem nmX5 : ∀ a, a < 10 → ∀ b, b < 10 → a ≠ b → (TX5 a).2.1 ≠ (TX5 b).2.1 := by decide +kernel
theorem tyX5_ok : ∀ k, k < 10 → parseFieldDescriptor (TX5 k).2.2.1 = some (tyX5 k) := by decide +kernel
abbrev cX5_init : ByteArray := prog_1_method_1_code
def yX5_init : MethodName := ⟨RX5, "<init>", "()V"⟩
abbrev cX5_delay : ByteArray := prog_1_method_2_code
def yX5_delay : MethodName := ⟨RX5, "delay", "(I)Z"⟩
abbrev cX5_feed : ByteArray := prog_1_method_3_code
def yX5_feed : MethodName := ⟨RX5, "feed", "(I)Z"⟩
abbrev cX5_append : ByteArray := prog_1_method_4_code
def yX5_append : MethodName := ⟨RX5, "append", "()I"⟩
abbrev cX5_flush : ByteArray := prog_1_method_5_code
def yX5_flush : MethodName := ⟨RX5, "flush", "()I"⟩
abbrev cX5_tick : ByteArray := prog_1_method_6_code
def yX5_tick : MethodName := ⟨RX5, "tick", "(I)I"⟩
abbrev cX5_checkpoint : ByteArray := prog_1_method_7_code
def yX5_checkpoint : MethodName := ⟨RX5, "checkpoint", "(I)I"⟩
abbrev cX5_cut : ByteArray := prog_1_method_8_code
def yX5_cut : MethodName := ⟨RX5, "cut", "()Z"⟩
abbrev cX5_arm : ByteArray := prog_1_method_9_code
def yX5_arm : MethodName := ⟨RX5, "arm", "(II)Z"⟩
abbrev cX5_start : ByteArray := prog_1_method_10_code
def yX5_start : MethodName := ⟨RX5, "start", "()I"⟩
abbrev cX5_first : ByteArray := prog_1_method_11_code
def yX5_first : MethodName := ⟨RX5, "first", "()I"⟩
abbrev cX5_safe : ByteArray := prog_1_method_12_code
def yX5_safe : MethodName := ⟨RX5, "safe", "()I"⟩
abbrev cX5_size : ByteArray := prog_1_method_13_code
def yX5_size : MethodName := ⟨RX5, "size", "(I)I"⟩
abbrev cX5_at : ByteArray := prog_1_method_14_code
def yX5_at : MethodName := ⟨RX5, "at", "(II)I"⟩
abbrev cX5_disk : ByteArray := prog_1_method_15_code
def yX5_disk : MethodName := ⟨RX5, "disk", "(II)I"⟩
abbrev cX5_poke : ByteArray := prog_1_method_16_code
def yX5_poke : MethodName := ⟨RX5, "poke", "(III)Z"⟩
abbrev cX5_torn : ByteArray := prog_1_method_17_code
def yX5_torn : MethodName := ⟨RX5, "torn", "(I)Z"⟩
abbrev cX5_count : ByteArray := prog_1_method_18_code
def yX5_count : MethodName := ⟨RX5, "count", "(I)I"⟩
abbrev cX5_countWhileOn : ByteArray := prog_1_method_19_code
def yX5_countWhileOn : MethodName := ⟨RX5, "countWhileOn", "(I)I"⟩
abbrev cX5_isTicks : ByteArray := prog_1_method_20_code
def yX5_isTicks : MethodName := ⟨RX5, "isTicks", "(I)Z"⟩
abbrev cX5_isByte : ByteArray := prog_1_method_21_code
def yX5_isByte : MethodName := ⟨RX5, "isByte", "(II)Z"⟩
abbrev cX5_isBelow : ByteArray := prog_1_method_22_code
def yX5_isBelow : MethodName := ⟨RX5, "isBelow", "(II)Z"⟩
abbrev cX5_placeBehind : ByteArray := prog_1_method_23_code
def yX5_placeBehind : MethodName := ⟨RX5, "placeBehind", "(II)I"⟩
abbrev cX5_powerGoes : ByteArray := prog_1_method_24_code
def yX5_powerGoes : MethodName := ⟨RX5, "powerGoes", "()V"⟩
abbrev cX5_writeDraft : ByteArray := prog_1_method_25_code
def yX5_writeDraft : MethodName := ⟨RX5, "writeDraft", "(I)Z"⟩
abbrev cX5_writeHead : ByteArray := prog_1_method_26_code
def yX5_writeHead : MethodName := ⟨RX5, "writeHead", "(III)Z"⟩
abbrev cX5_writeQueue : ByteArray := prog_1_method_27_code
def yX5_writeQueue : MethodName := ⟨RX5, "writeQueue", "()I"⟩
def RX6 : String := "GroupLogModel"
def TX6 : u_T := fun k => match k with
  | 0 => ("GroupLogModel", "disk", "[B", true)
  | 1 => ("GroupLogModel", "isTorn", "[Z", true)
  | 2 => ("GroupLogModel", "isOn", "Z", false)
  | 3 => ("GroupLogModel", "armed", "I", false)
  | 4 => ("GroupLogModel", "armedPart", "I", false)
  | 5 => ("GroupLogModel", "delay", "I", false)
  | 6 => ("GroupLogModel", "steps", "I", false)
  | 7 => ("GroupLogModel", "flushes", "I", false)
  | 8 => ("GroupLogModel", "tape", "[B", true)
  | 9 => ("GroupLogModel", "tapeSize", "I", false)
  | 10 => ("GroupLogModel", "queue", "[B", true)
  | 11 => ("GroupLogModel", "queueSize", "I", false)
  | 12 => ("GroupLogModel", "queueBegins", "[I", true)
  | 13 => ("GroupLogModel", "queued", "I", false)
  | 14 => ("GroupLogModel", "waited", "I", false)
  | 15 => ("GroupLogModel", "headSector", "I", false)
  | 16 => ("GroupLogModel", "version", "I", false)
  | 17 => ("GroupLogModel", "firstSerial", "I", false)
  | 18 => ("GroupLogModel", "firstRecord", "I", false)
  | 19 => ("GroupLogModel", "place", "I", false)
  | 20 => ("GroupLogModel", "nextSector", "I", false)
  | 21 => ("GroupLogModel", "nextSerial", "I", false)
  | 22 => ("GroupLogModel", "lastSafe", "I", false)
  | 23 => ("GroupLogModel", "recordSector", "[I", true)
  | 24 => ("GroupLogModel", "recordByte", "[I", true)
  | 25 => ("GroupLogModel", "recordSize", "[I", true)
  | 26 => ("GroupLogModel", "sector", "[B", true)
  | 27 => ("GroupLogModel", "have", "I", false)
  | 28 => ("GroupLogModel", "head", "[I", true)
  | 29 => ("GroupLogModel", "beginSector", "I", false)
  | 30 => ("GroupLogModel", "beginByte", "I", false)
  | 31 => ("GroupLogModel", "tells", "Z", false)
  | 32 => ("GroupLogModel", "endSector", "I", false)
  | _ => ("GroupLogModel", "endSerial", "I", false)
def tyX6 : Nat → FieldType := fun k => match k with
  | 0 => .array .byte
  | 1 => .array .boolean
  | 2 => .boolean
  | 3 => .int
  | 4 => .int
  | 5 => .int
  | 6 => .int
  | 7 => .int
  | 8 => .array .byte
  | 9 => .int
  | 10 => .array .byte
  | 11 => .int
  | 12 => .array .int
  | 13 => .int
  | 14 => .int
  | 15 => .int
  | 16 => .int
  | 17 => .int
  | 18 => .int
  | 19 => .int
  | 20 => .int
  | 21 => .int
  | 22 => .int
  | 23 => .array .int
  | 24 => .array .int
  | 25 => .array .int
  | 26 => .array .byte
  | 27 => .int
  | 28 => .array .int
  | 29 => .int
  | 30 => .int
  | 31 => .boolean
  | 32 => .int
  | _ => .int
abbrev wsX60 : List Cond := u_ws RX6 TX6 34
theorem nmX6 : ∀ a, a < 34 → ∀ b, b < 34 → a ≠ b → (TX6 a).2.1 ≠ (TX6 b).2.1 := by decide +kernel
theorem tyX6_ok : ∀ k, k < 34 → parseFieldDescriptor (TX6 k).2.2.1 = some (tyX6 k) := by decide +kernel
abbrev cX6_init : ByteArray := prog_8_method_1_code
def yX6_init : MethodName := ⟨RX6, "<init>", "()V"⟩
abbrev cX6_add : ByteArray := prog_8_method_3_code
def yX6_add : MethodName := ⟨RX6, "add", "(II)I"⟩
abbrev cX6_headSum : ByteArray := prog_8_method_4_code
def yX6_headSum : MethodName := ⟨RX6, "headSum", "([BI)I"⟩
abbrev cX6_logSum : ByteArray := prog_8_method_5_code
def yX6_logSum : MethodName := ⟨RX6, "logSum", "([BI)I"⟩
abbrev cX6_set : ByteArray := prog_8_method_6_code
def yX6_set : MethodName := ⟨RX6, "set", "(II)V"⟩
abbrev cX6_numberAt : ByteArray := prog_8_method_7_code
def yX6_numberAt : MethodName := ⟨RX6, "numberAt", "(I)I"⟩
abbrev cX6_clear : ByteArray := prog_8_method_8_code
def yX6_clear : MethodName := ⟨RX6, "clear", "()V"⟩
abbrev cX6_makeHead : ByteArray := prog_8_method_9_code
def yX6_makeHead : MethodName := ⟨RX6, "makeHead", "()V"⟩
abbrev cX6_write : ByteArray := prog_8_method_10_code
def yX6_write : MethodName := ⟨RX6, "write", "(I)Z"⟩
abbrev cX6_goOff : ByteArray := prog_8_method_11_code
def yX6_goOff : MethodName := ⟨RX6, "goOff", "()V"⟩
abbrev cX6_used : ByteArray := prog_8_method_12_code
def yX6_used : MethodName := ⟨RX6, "used", "()I"⟩
abbrev cX6_behind : ByteArray := prog_8_method_13_code
def yX6_behind : MethodName := ⟨RX6, "behind", "(I)I"⟩
abbrev cX6_delay : ByteArray := prog_8_method_14_code
def yX6_delay : MethodName := ⟨RX6, "delay", "(I)Z"⟩
abbrev cX6_feed : ByteArray := prog_8_method_15_code
def yX6_feed : MethodName := ⟨RX6, "feed", "(I)Z"⟩
abbrev cX6_append : ByteArray := prog_8_method_16_code
def yX6_append : MethodName := ⟨RX6, "append", "()I"⟩
abbrev cX6_put : ByteArray := prog_8_method_17_code
def yX6_put : MethodName := ⟨RX6, "put", "(I)V"⟩
abbrev cX6_flushAll : ByteArray := prog_8_method_18_code
def yX6_flushAll : MethodName := ⟨RX6, "flushAll", "()I"⟩
abbrev cX6_flush : ByteArray := prog_8_method_19_code
def yX6_flush : MethodName := ⟨RX6, "flush", "()I"⟩
abbrev cX6_tick : ByteArray := prog_8_method_20_code
def yX6_tick : MethodName := ⟨RX6, "tick", "(I)I"⟩
abbrev cX6_checkpoint : ByteArray := prog_8_method_21_code
def yX6_checkpoint : MethodName := ⟨RX6, "checkpoint", "(I)I"⟩
abbrev cX6_cut : ByteArray := prog_8_method_22_code
def yX6_cut : MethodName := ⟨RX6, "cut", "()Z"⟩
abbrev cX6_arm : ByteArray := prog_8_method_23_code
def yX6_arm : MethodName := ⟨RX6, "arm", "(II)Z"⟩
abbrev cX6_isGood : ByteArray := prog_8_method_24_code
def yX6_isGood : MethodName := ⟨RX6, "isGood", "(I)Z"⟩
abbrev cX6_lacks : ByteArray := prog_8_method_25_code
def yX6_lacks : MethodName := ⟨RX6, "lacks", "()I"⟩
abbrev cX6_fits : ByteArray := prog_8_method_26_code
def yX6_fits : MethodName := ⟨RX6, "fits", "(IZ)Z"⟩
abbrev cX6_read : ByteArray := prog_8_method_27_code
def yX6_read : MethodName := ⟨RX6, "read", "(IIII)V"⟩
abbrev cX6_start : ByteArray := prog_8_method_28_code
def yX6_start : MethodName := ⟨RX6, "start", "()I"⟩
abbrev cX6_isLog : ByteArray := prog_8_method_29_code
def yX6_isLog : MethodName := ⟨RX6, "isLog", "(IIZ)Z"⟩
abbrev cX6_first : ByteArray := prog_8_method_30_code
def yX6_first : MethodName := ⟨RX6, "first", "()I"⟩
abbrev cX6_safe : ByteArray := prog_8_method_31_code
def yX6_safe : MethodName := ⟨RX6, "safe", "()I"⟩
abbrev cX6_size : ByteArray := prog_8_method_32_code
def yX6_size : MethodName := ⟨RX6, "size", "(I)I"⟩
abbrev cX6_at : ByteArray := prog_8_method_33_code
def yX6_at : MethodName := ⟨RX6, "at", "(II)I"⟩
abbrev cX6_isByte : ByteArray := prog_8_method_34_code
def yX6_isByte : MethodName := ⟨RX6, "isByte", "(II)Z"⟩
abbrev cX6_disk : ByteArray := prog_8_method_35_code
def yX6_disk : MethodName := ⟨RX6, "disk", "(II)I"⟩
abbrev cX6_poke : ByteArray := prog_8_method_36_code
def yX6_poke : MethodName := ⟨RX6, "poke", "(III)Z"⟩
abbrev cX6_torn : ByteArray := prog_8_method_37_code
def yX6_torn : MethodName := ⟨RX6, "torn", "(I)Z"⟩
abbrev cX6_count : ByteArray := prog_8_method_38_code
def yX6_count : MethodName := ⟨RX6, "count", "(I)I"⟩
def RJ9 : String := "java/lang/Math"
def TJ9 : u_T := fun k => match k with
  | _ => ("", "", "", false)
def tyJ9 : Nat → FieldType := fun k => match k with
  | _ => .int
abbrev wsJ90 : List Cond := u_ws RJ9 TJ9 0
theorem nmJ9 : ∀ a, a < 0 → ∀ b, b < 0 → a ≠ b → (TJ9 a).2.1 ≠ (TJ9 b).2.1 := by decide +kernel
theorem tyJ9_ok : ∀ k, k < 0 → parseFieldDescriptor (TJ9 k).2.2.1 = some (tyJ9 k) := by decide +kernel
abbrev cJ9_floorMod_7cf53 : ByteArray := prog_9_method_50_code
def yJ9_floorMod_7cf53 : MethodName := ⟨RJ9, "floorMod", "(II)I"⟩
abbrev cJ9_min_7cf53 : ByteArray := prog_9_method_69_code
def yJ9_min_7cf53 : MethodName := ⟨RJ9, "min", "(II)I"⟩
def RL : String := "GroupLogLaw"
abbrev cL_law : ByteArray := code
def yL_law : MethodName := ⟨RL, "law", "([I)Z"⟩
def wsX0_openAt : List Cond := .code yX0_openAt cX0_openAt 4 none :: ([.fieldLink RX0 19 "GroupLog$Log" "firstRecord" "I", .fieldLink RX0 23 "GroupLog$Log" "keptFrom" "I", .fieldLink RX0 26 "GroupLog$Log" "lastSafe" "I", .fieldLink RX0 29 "GroupLog$Log" "firstPlace" "I", .fieldLink RX0 32 "GroupLog$Log" "used" "I", .fieldLink RX0 35 "GroupLog$Log" "nextPlace" "I", .fieldLink RX0 38 "GroupLog$Log" "nextSerial" "I"] ++ wsX00)
def wsX0_init : List Cond := .code yX0_init cX0_init 1 none :: ([.methodLink RX0 3 objectInit, .instanceMethod objectInit, .code objectInit ⟨#[0xb1]⟩ 1 none, .arrayClass .int, .fieldLink RX0 9 "GroupLog$Log" "begins" "[I", .methodLink RX0 15 yX0_openAt, .instanceMethod yX0_openAt, .selects RX0 yX0_openAt yX0_openAt, .initialized RX0, .code yX0_openAt cX0_openAt 4 none, .fieldLink RX0 19 "GroupLog$Log" "firstRecord" "I", .fieldLink RX0 23 "GroupLog$Log" "keptFrom" "I", .fieldLink RX0 26 "GroupLog$Log" "lastSafe" "I", .fieldLink RX0 29 "GroupLog$Log" "firstPlace" "I", .fieldLink RX0 32 "GroupLog$Log" "used" "I", .fieldLink RX0 35 "GroupLog$Log" "nextPlace" "I", .fieldLink RX0 38 "GroupLog$Log" "nextSerial" "I"] ++ wsX00)
def wsJ9_floorMod_7cf53 : List Cond := .code yJ9_floorMod_7cf53 cJ9_floorMod_7cf53 3 (some .int) :: ([])
def wsX5_placeBehind : List Cond := .code yX5_placeBehind cX5_placeBehind 2 (some .int) :: ([.methodLink RX5 195 yJ9_floorMod_7cf53, .static yJ9_floorMod_7cf53, .initialized RJ9, .code yJ9_floorMod_7cf53 cJ9_floorMod_7cf53 3 (some .int)])
def wsX0_advance : List Cond := .code yX0_advance cX0_advance 2 none :: ([.fieldLink RX0 32 "GroupLog$Log" "used" "I", .fieldLink RX0 35 "GroupLog$Log" "nextPlace" "I", .fieldLink RX0 38 "GroupLog$Log" "nextSerial" "I", .static yX5_placeBehind, .initialized RX5, .code yX5_placeBehind cX5_placeBehind 2 (some .int), .methodLink RX5 195 yJ9_floorMod_7cf53, .static yJ9_floorMod_7cf53, .initialized RJ9, .code yJ9_floorMod_7cf53 cJ9_floorMod_7cf53 3 (some .int)] ++ wsX00)
def wsX0_slotOf : List Cond := .code yX0_slotOf cX0_slotOf 1 (some .int) :: ([])
def wsX0_addSafe : List Cond := .code yX0_addSafe cX0_addSafe 3 none :: ([.fieldLink RX0 26 "GroupLog$Log" "lastSafe" "I", .fieldLink RX0 9 "GroupLog$Log" "begins" "[I", .methodLink RX0 45 yX0_slotOf, .static yX0_slotOf, .initialized RX0, .code yX0_slotOf cX0_slotOf 1 (some .int)] ++ wsX00)
def wsX0_has : List Cond := .code yX0_has cX0_has 2 (some .boolean) :: ([.fieldLink RX0 19 "GroupLog$Log" "firstRecord" "I", .fieldLink RX0 26 "GroupLog$Log" "lastSafe" "I"] ++ wsX00)
def wsX0_beginOf : List Cond := .code yX0_beginOf cX0_beginOf 2 (some .int) :: ([.fieldLink RX0 9 "GroupLog$Log" "begins" "[I", .methodLink RX0 45 yX0_slotOf, .static yX0_slotOf, .initialized RX0, .code yX0_slotOf cX0_slotOf 1 (some .int)] ++ wsX00)
def wsX0_placeOf : List Cond := .code yX0_placeOf cX0_placeOf 2 (some .int) :: ([.fieldLink RX0 26 "GroupLog$Log" "lastSafe" "I", .fieldLink RX0 35 "GroupLog$Log" "nextPlace" "I", .methodLink RX0 49 yX0_beginOf, .instanceMethod yX0_beginOf, .selects RX0 yX0_beginOf yX0_beginOf, .initialized RX0, .code yX0_beginOf cX0_beginOf 2 (some .int), .fieldLink RX0 9 "GroupLog$Log" "begins" "[I", .methodLink RX0 45 yX0_slotOf, .static yX0_slotOf, .code yX0_slotOf cX0_slotOf 1 (some .int)] ++ wsX00)
def wsX0_firstBeginningWith : List Cond := .code yX0_firstBeginningWith cX0_firstBeginningWith 4 (some .int) :: ([.methodLink RX0 52 yX0_has, .instanceMethod yX0_has, .selects RX0 yX0_has yX0_has, .initialized RX0, .code yX0_has cX0_has 2 (some .boolean), .fieldLink RX0 19 "GroupLog$Log" "firstRecord" "I", .fieldLink RX0 26 "GroupLog$Log" "lastSafe" "I", .methodLink RX0 56 yX0_placeOf, .instanceMethod yX0_placeOf, .selects RX0 yX0_placeOf yX0_placeOf, .code yX0_placeOf cX0_placeOf 2 (some .int), .fieldLink RX0 35 "GroupLog$Log" "nextPlace" "I", .methodLink RX0 49 yX0_beginOf, .instanceMethod yX0_beginOf, .selects RX0 yX0_beginOf yX0_beginOf, .code yX0_beginOf cX0_beginOf 2 (some .int), .fieldLink RX0 9 "GroupLog$Log" "begins" "[I", .methodLink RX0 45 yX0_slotOf, .static yX0_slotOf, .code yX0_slotOf cX0_slotOf 1 (some .int)] ++ wsX00)
def wsX0_giveUpBefore : List Cond := .code yX0_giveUpBefore cX0_giveUpBefore 5 (some .int) :: ([.fieldLink RX0 26 "GroupLog$Log" "lastSafe" "I", .fieldLink RX0 32 "GroupLog$Log" "used" "I", .fieldLink RX0 29 "GroupLog$Log" "firstPlace" "I", .fieldLink RX0 19 "GroupLog$Log" "firstRecord" "I", .fieldLink RX0 23 "GroupLog$Log" "keptFrom" "I", .methodLink RX0 59 yJ9_floorMod_7cf53, .static yJ9_floorMod_7cf53, .initialized RJ9, .code yJ9_floorMod_7cf53 cJ9_floorMod_7cf53 3 (some .int)] ++ wsX00)
def wsX4_sector : List Cond := .code yX4_sector cX4_sector 2 (some (.object "GroupLog$Sector")) :: ([.fieldLink RX4 11 "GroupLog$Store" "sectors" "[LGroupLog$Sector;"] ++ wsX40)
def wsX3_get : List Cond := .code yX3_get cX3_get 2 (some .int) :: ([.fieldLink RX3 9 "GroupLog$Sector" "bytes" "[I"] ++ wsX30)
def wsX3_logBytes : List Cond := .code yX3_logBytes cX3_logBytes 1 (some .int) :: ([.methodLink RX3 27 yX3_get, .instanceMethod yX3_get, .selects RX3 yX3_get yX3_get, .initialized RX3, .code yX3_get cX3_get 2 (some .int), .fieldLink RX3 9 "GroupLog$Sector" "bytes" "[I"] ++ wsX30)
def wsX3_logByte : List Cond := .code yX3_logByte cX3_logByte 2 (some .int) :: ([.methodLink RX3 27 yX3_get, .instanceMethod yX3_get, .selects RX3 yX3_get yX3_get, .initialized RX3, .code yX3_get cX3_get 2 (some .int), .fieldLink RX3 9 "GroupLog$Sector" "bytes" "[I"] ++ wsX30)
def wsX0_byteOf_r1 : List Cond := [Cond.methodLink RX0 56 yX0_placeOf, Cond.instanceMethod yX0_placeOf, Cond.selects RX0 yX0_placeOf yX0_placeOf, Cond.initialized RX0, Cond.code yX0_placeOf cX0_placeOf 2 (some .int), Cond.fieldLink RX0 26 "GroupLog$Log" "lastSafe" "I", Cond.fieldLink RX0 35 "GroupLog$Log" "nextPlace" "I", Cond.methodLink RX0 49 yX0_beginOf, Cond.instanceMethod yX0_beginOf, Cond.selects RX0 yX0_beginOf yX0_beginOf, Cond.code yX0_beginOf cX0_beginOf 2 (some .int), Cond.fieldLink RX0 9 "GroupLog$Log" "begins" "[I", Cond.methodLink RX0 45 yX0_slotOf, Cond.static yX0_slotOf, Cond.code yX0_slotOf cX0_slotOf 1 (some .int), Cond.methodLink RX0 68 yX4_sector, Cond.instanceMethod yX4_sector, Cond.selects RX4 yX4_sector yX4_sector, Cond.initialized RX4, Cond.code yX4_sector cX4_sector 2 (some (.object "GroupLog$Sector")), Cond.fieldLink RX4 11 "GroupLog$Store" "sectors" "[LGroupLog$Sector;", Cond.methodLink RX0 74 yX3_logBytes, Cond.instanceMethod yX3_logBytes, Cond.selects RX3 yX3_logBytes yX3_logBytes]
def wsX0_byteOf_r2 : List Cond := [Cond.initialized RX3, Cond.code yX3_logBytes cX3_logBytes 1 (some .int), Cond.methodLink RX3 27 yX3_get, Cond.instanceMethod yX3_get, Cond.selects RX3 yX3_get yX3_get, Cond.code yX3_get cX3_get 2 (some .int), Cond.fieldLink RX3 9 "GroupLog$Sector" "bytes" "[I", Cond.methodLink RX0 80 yX3_logByte, Cond.instanceMethod yX3_logByte, Cond.selects RX3 yX3_logByte yX3_logByte, Cond.code yX3_logByte cX3_logByte 2 (some .int), Cond.static yX5_placeBehind, Cond.initialized RX5, Cond.code yX5_placeBehind cX5_placeBehind 2 (some .int), Cond.methodLink RX5 195 yJ9_floorMod_7cf53, Cond.static yJ9_floorMod_7cf53, Cond.initialized RJ9, Cond.code yJ9_floorMod_7cf53 cJ9_floorMod_7cf53 3 (some .int)]
def wsX0_byteOf : List Cond := .code yX0_byteOf cX0_byteOf 8 (some .int) :: ((wsX0_byteOf_r1 ++ wsX0_byteOf_r2) ++ wsX00 ++ wsX40 ++ wsX30)
def wsX0_dataBytes_r1 : List Cond := [Cond.methodLink RX0 64 yX0_byteOf, Cond.instanceMethod yX0_byteOf, Cond.selects RX0 yX0_byteOf yX0_byteOf, Cond.initialized RX0, Cond.code yX0_byteOf cX0_byteOf 8 (some .int), Cond.methodLink RX0 56 yX0_placeOf, Cond.instanceMethod yX0_placeOf, Cond.selects RX0 yX0_placeOf yX0_placeOf, Cond.code yX0_placeOf cX0_placeOf 2 (some .int), Cond.fieldLink RX0 26 "GroupLog$Log" "lastSafe" "I", Cond.fieldLink RX0 35 "GroupLog$Log" "nextPlace" "I", Cond.methodLink RX0 49 yX0_beginOf, Cond.instanceMethod yX0_beginOf, Cond.selects RX0 yX0_beginOf yX0_beginOf, Cond.code yX0_beginOf cX0_beginOf 2 (some .int), Cond.fieldLink RX0 9 "GroupLog$Log" "begins" "[I", Cond.methodLink RX0 45 yX0_slotOf, Cond.static yX0_slotOf, Cond.code yX0_slotOf cX0_slotOf 1 (some .int), Cond.methodLink RX0 68 yX4_sector, Cond.instanceMethod yX4_sector, Cond.selects RX4 yX4_sector yX4_sector, Cond.initialized RX4, Cond.code yX4_sector cX4_sector 2 (some (.object "GroupLog$Sector"))]
def wsX0_dataBytes_r2 : List Cond := [Cond.fieldLink RX4 11 "GroupLog$Store" "sectors" "[LGroupLog$Sector;", Cond.methodLink RX0 74 yX3_logBytes, Cond.instanceMethod yX3_logBytes, Cond.selects RX3 yX3_logBytes yX3_logBytes, Cond.initialized RX3, Cond.code yX3_logBytes cX3_logBytes 1 (some .int), Cond.methodLink RX3 27 yX3_get, Cond.instanceMethod yX3_get, Cond.selects RX3 yX3_get yX3_get, Cond.code yX3_get cX3_get 2 (some .int), Cond.fieldLink RX3 9 "GroupLog$Sector" "bytes" "[I", Cond.methodLink RX0 80 yX3_logByte, Cond.instanceMethod yX3_logByte, Cond.selects RX3 yX3_logByte yX3_logByte, Cond.code yX3_logByte cX3_logByte 2 (some .int), Cond.static yX5_placeBehind, Cond.initialized RX5, Cond.code yX5_placeBehind cX5_placeBehind 2 (some .int), Cond.methodLink RX5 195 yJ9_floorMod_7cf53, Cond.static yJ9_floorMod_7cf53, Cond.initialized RJ9, Cond.code yJ9_floorMod_7cf53 cJ9_floorMod_7cf53 3 (some .int)]
def wsX0_dataBytes : List Cond := .code yX0_dataBytes cX0_dataBytes 3 (some .int) :: ((wsX0_dataBytes_r1 ++ wsX0_dataBytes_r2) ++ wsX00 ++ wsX40 ++ wsX30)
def wsX1_init : List Cond := .code yX1_init cX1_init 1 none :: ([.methodLink RX1 3 objectInit, .instanceMethod objectInit, .code objectInit ⟨#[0xb1]⟩ 1 none, .arrayClass .int, .fieldLink RX1 9 "GroupLog$Queue" "bytes" "[I", .fieldLink RX1 15 "GroupLog$Queue" "length" "I", .fieldLink RX1 19 "GroupLog$Queue" "records" "I", .fieldLink RX1 22 "GroupLog$Queue" "waited" "I"] ++ wsX10)
def wsX1_empty : List Cond := .code yX1_empty cX1_empty 1 none :: ([.fieldLink RX1 15 "GroupLog$Queue" "length" "I", .fieldLink RX1 19 "GroupLog$Queue" "records" "I", .fieldLink RX1 22 "GroupLog$Queue" "waited" "I"] ++ wsX10)
def wsX1_sectorsWith : List Cond := .code yX1_sectorsWith cX1_sectorsWith 2 (some .int) :: ([.fieldLink RX1 15 "GroupLog$Queue" "length" "I"] ++ wsX10)
def wsX1_put : List Cond := .code yX1_put cX1_put 2 none :: ([.fieldLink RX1 15 "GroupLog$Queue" "length" "I", .fieldLink RX1 9 "GroupLog$Queue" "bytes" "[I"] ++ wsX10)
def wsX1_add : List Cond := .code yX1_add cX1_add 5 none :: ([.fieldLink RX1 19 "GroupLog$Queue" "records" "I", .methodLink RX1 25 yX1_put, .instanceMethod yX1_put, .selects RX1 yX1_put yX1_put, .initialized RX1, .code yX1_put cX1_put 2 none, .fieldLink RX1 15 "GroupLog$Queue" "length" "I", .fieldLink RX1 9 "GroupLog$Queue" "bytes" "[I"] ++ wsX10)
def wsX1_get : List Cond := .code yX1_get cX1_get 2 (some .int) :: ([.fieldLink RX1 9 "GroupLog$Queue" "bytes" "[I"] ++ wsX10)
def wsX1_behindRecordAt : List Cond := .code yX1_behindRecordAt cX1_behindRecordAt 2 (some .int) :: ([.methodLink RX1 29 yX1_get, .instanceMethod yX1_get, .selects RX1 yX1_get yX1_get, .initialized RX1, .code yX1_get cX1_get 2 (some .int), .fieldLink RX1 9 "GroupLog$Queue" "bytes" "[I"] ++ wsX10)
def wsX1_firstBeginFrom : List Cond := .code yX1_firstBeginFrom cX1_firstBeginFrom 4 (some .int) :: ([.fieldLink RX1 19 "GroupLog$Queue" "records" "I", .methodLink RX1 33 yX1_behindRecordAt, .instanceMethod yX1_behindRecordAt, .selects RX1 yX1_behindRecordAt yX1_behindRecordAt, .initialized RX1, .code yX1_behindRecordAt cX1_behindRecordAt 2 (some .int), .methodLink RX1 29 yX1_get, .instanceMethod yX1_get, .selects RX1 yX1_get yX1_get, .code yX1_get cX1_get 2 (some .int), .fieldLink RX1 9 "GroupLog$Queue" "bytes" "[I"] ++ wsX10)
def wsX3_clear : List Cond := .code yX3_clear cX3_clear 2 none :: ([.fieldLink RX3 9 "GroupLog$Sector" "bytes" "[I"] ++ wsX30)
def wsX3_set : List Cond := .code yX3_set cX3_set 3 none :: ([.fieldLink RX3 9 "GroupLog$Sector" "bytes" "[I"] ++ wsX30)
def wsX1_fill_r1 : List Cond := [Cond.fieldLink RX1 15 "GroupLog$Queue" "length" "I", Cond.methodLink RX1 36 Lib.Math.min.name, Cond.static Lib.Math.min.name, Cond.initialized "java/lang/Math", Cond.code Lib.Math.min.name Lib.Math.min.code 2 (some .int), Cond.methodLink RX1 42 yX1_firstBeginFrom, Cond.instanceMethod yX1_firstBeginFrom, Cond.selects RX1 yX1_firstBeginFrom yX1_firstBeginFrom, Cond.initialized RX1, Cond.code yX1_firstBeginFrom cX1_firstBeginFrom 4 (some .int), Cond.fieldLink RX1 19 "GroupLog$Queue" "records" "I", Cond.methodLink RX1 33 yX1_behindRecordAt, Cond.instanceMethod yX1_behindRecordAt, Cond.selects RX1 yX1_behindRecordAt yX1_behindRecordAt, Cond.code yX1_behindRecordAt cX1_behindRecordAt 2 (some .int), Cond.methodLink RX1 29 yX1_get, Cond.instanceMethod yX1_get, Cond.selects RX1 yX1_get yX1_get, Cond.code yX1_get cX1_get 2 (some .int), Cond.fieldLink RX1 9 "GroupLog$Queue" "bytes" "[I", Cond.methodLink RX1 45 yX3_clear, Cond.instanceMethod yX3_clear, Cond.selects RX3 yX3_clear yX3_clear, Cond.initialized RX3]
def wsX1_fill_r2 : List Cond := [Cond.code yX3_clear cX3_clear 2 none, Cond.fieldLink RX3 9 "GroupLog$Sector" "bytes" "[I", Cond.methodLink RX1 50 yX3_set, Cond.instanceMethod yX3_set, Cond.selects RX3 yX3_set yX3_set, Cond.code yX3_set cX3_set 3 none]
def wsX1_fill : List Cond := .code yX1_fill cX1_fill 7 none :: ((wsX1_fill_r1 ++ wsX1_fill_r2) ++ wsX10 ++ wsX30)
def wsX1_tellTo_r1 : List Cond := [Cond.fieldLink RX1 19 "GroupLog$Queue" "records" "I", Cond.static yX5_placeBehind, Cond.initialized RX5, Cond.code yX5_placeBehind cX5_placeBehind 2 (some .int), Cond.methodLink RX5 195 yJ9_floorMod_7cf53, Cond.static yJ9_floorMod_7cf53, Cond.initialized RJ9, Cond.code yJ9_floorMod_7cf53 cJ9_floorMod_7cf53 3 (some .int), Cond.methodLink RX1 57 yX0_addSafe, Cond.instanceMethod yX0_addSafe, Cond.selects RX0 yX0_addSafe yX0_addSafe, Cond.initialized RX0, Cond.code yX0_addSafe cX0_addSafe 3 none, Cond.fieldLink RX0 26 "GroupLog$Log" "lastSafe" "I", Cond.fieldLink RX0 9 "GroupLog$Log" "begins" "[I", Cond.methodLink RX0 45 yX0_slotOf, Cond.static yX0_slotOf, Cond.code yX0_slotOf cX0_slotOf 1 (some .int), Cond.methodLink RX1 33 yX1_behindRecordAt, Cond.instanceMethod yX1_behindRecordAt, Cond.selects RX1 yX1_behindRecordAt yX1_behindRecordAt, Cond.initialized RX1, Cond.code yX1_behindRecordAt cX1_behindRecordAt 2 (some .int), Cond.methodLink RX1 29 yX1_get]
def wsX1_tellTo_r2 : List Cond := [Cond.instanceMethod yX1_get, Cond.selects RX1 yX1_get yX1_get, Cond.code yX1_get cX1_get 2 (some .int), Cond.fieldLink RX1 9 "GroupLog$Queue" "bytes" "[I"]
def wsX1_tellTo : List Cond := .code yX1_tellTo cX1_tellTo 5 none :: ((wsX1_tellTo_r1 ++ wsX1_tellTo_r2) ++ wsX10 ++ wsX00)
def wsX2_init : List Cond := .code yX2_init cX2_init 1 none :: ([.methodLink RX2 3 objectInit, .instanceMethod objectInit, .code objectInit ⟨#[0xb1]⟩ 1 none, .arrayClass .int, .fieldLink RX2 9 "GroupLog$Reader" "front" "[I", .fieldLink RX2 15 "GroupLog$Reader" "have" "I", .fieldLink RX2 19 "GroupLog$Reader" "beginPlace" "I", .fieldLink RX2 22 "GroupLog$Reader" "beginOffset" "I", .fieldLink RX2 25 "GroupLog$Reader" "ended" "Z"] ++ wsX20)
def wsX3_number : List Cond := .code yX3_number cX3_number 2 (some .int) :: ([.fieldLink RX3 9 "GroupLog$Sector" "bytes" "[I"] ++ wsX30)
def wsX3_sumOver : List Cond := .code yX3_sumOver cX3_sumOver 7 (some .int) :: ([.fieldLink RX3 9 "GroupLog$Sector" "bytes" "[I", .constant RX3 31 (-306674912)] ++ wsX30)
def wsX3_logSum : List Cond := .code yX3_logSum cX3_logSum 1 (some .int) :: ([.methodLink RX3 32 yX3_sumOver, .instanceMethod yX3_sumOver, .selects RX3 yX3_sumOver yX3_sumOver, .initialized RX3, .code yX3_sumOver cX3_sumOver 7 (some .int), .fieldLink RX3 9 "GroupLog$Sector" "bytes" "[I", .constant RX3 31 (-306674912)] ++ wsX30)
def wsX3_isSoundLog : List Cond := .code yX3_isSoundLog cX3_isSoundLog 1 (some .boolean) :: ([.fieldLink RX3 15 "GroupLog$Sector" "isTorn" "Z", .methodLink RX3 62 yX3_logBytes, .instanceMethod yX3_logBytes, .selects RX3 yX3_logBytes yX3_logBytes, .initialized RX3, .code yX3_logBytes cX3_logBytes 1 (some .int), .methodLink RX3 27 yX3_get, .instanceMethod yX3_get, .selects RX3 yX3_get yX3_get, .code yX3_get cX3_get 2 (some .int), .fieldLink RX3 9 "GroupLog$Sector" "bytes" "[I", .methodLink RX3 46 yX3_number, .instanceMethod yX3_number, .selects RX3 yX3_number yX3_number, .code yX3_number cX3_number 2 (some .int), .methodLink RX3 59 yX3_logSum, .instanceMethod yX3_logSum, .selects RX3 yX3_logSum yX3_logSum, .code yX3_logSum cX3_logSum 1 (some .int), .methodLink RX3 32 yX3_sumOver, .instanceMethod yX3_sumOver, .selects RX3 yX3_sumOver yX3_sumOver, .code yX3_sumOver cX3_sumOver 7 (some .int), .constant RX3 31 (-306674912)] ++ wsX30)
def wsX3_serial : List Cond := .code yX3_serial cX3_serial 1 (some .int) :: ([.methodLink RX3 46 yX3_number, .instanceMethod yX3_number, .selects RX3 yX3_number yX3_number, .initialized RX3, .code yX3_number cX3_number 2 (some .int), .fieldLink RX3 9 "GroupLog$Sector" "bytes" "[I"] ++ wsX30)
def wsX3_logVersion : List Cond := .code yX3_logVersion cX3_logVersion 1 (some .int) :: ([.methodLink RX3 46 yX3_number, .instanceMethod yX3_number, .selects RX3 yX3_number yX3_number, .initialized RX3, .code yX3_number cX3_number 2 (some .int), .fieldLink RX3 9 "GroupLog$Sector" "bytes" "[I"] ++ wsX30)
def wsX5_isBelow : List Cond := .code yX5_isBelow cX5_isBelow 2 (some .boolean) :: ([.constantLong RX5 193 (4294967295)])
def wsX3_logBegin : List Cond := .code yX3_logBegin cX3_logBegin 1 (some .int) :: ([.methodLink RX3 27 yX3_get, .instanceMethod yX3_get, .selects RX3 yX3_get yX3_get, .initialized RX3, .code yX3_get cX3_get 2 (some .int), .fieldLink RX3 9 "GroupLog$Sector" "bytes" "[I"] ++ wsX30)
def wsX2_lackingBefore : List Cond := .code yX2_lackingBefore cX2_lackingBefore 4 (some .int) :: ([.fieldLink RX2 15 "GroupLog$Reader" "have" "I", .fieldLink RX2 9 "GroupLog$Reader" "front" "[I", .methodLink RX2 82 yX3_logBytes, .instanceMethod yX3_logBytes, .selects RX3 yX3_logBytes yX3_logBytes, .initialized RX3, .code yX3_logBytes cX3_logBytes 1 (some .int), .methodLink RX3 27 yX3_get, .instanceMethod yX3_get, .selects RX3 yX3_get yX3_get, .code yX3_get cX3_get 2 (some .int), .fieldLink RX3 9 "GroupLog$Sector" "bytes" "[I", .methodLink RX2 89 yX3_logByte, .instanceMethod yX3_logByte, .selects RX3 yX3_logByte yX3_logByte, .code yX3_logByte cX3_logByte 2 (some .int)] ++ wsX20 ++ wsX30)
def wsX2_fits_r1 : List Cond := [Cond.fieldLink RX2 15 "GroupLog$Reader" "have" "I", Cond.methodLink RX2 79 yX3_logBegin, Cond.instanceMethod yX3_logBegin, Cond.selects RX3 yX3_logBegin yX3_logBegin, Cond.initialized RX3, Cond.code yX3_logBegin cX3_logBegin 1 (some .int), Cond.methodLink RX3 27 yX3_get, Cond.instanceMethod yX3_get, Cond.selects RX3 yX3_get yX3_get, Cond.code yX3_get cX3_get 2 (some .int), Cond.fieldLink RX3 9 "GroupLog$Sector" "bytes" "[I", Cond.methodLink RX2 82 yX3_logBytes, Cond.instanceMethod yX3_logBytes, Cond.selects RX3 yX3_logBytes yX3_logBytes, Cond.code yX3_logBytes cX3_logBytes 1 (some .int), Cond.methodLink RX2 85 yX2_lackingBefore, Cond.instanceMethod yX2_lackingBefore, Cond.selects RX2 yX2_lackingBefore yX2_lackingBefore, Cond.initialized RX2, Cond.code yX2_lackingBefore cX2_lackingBefore 4 (some .int), Cond.fieldLink RX2 9 "GroupLog$Reader" "front" "[I", Cond.methodLink RX2 89 yX3_logByte, Cond.instanceMethod yX3_logByte, Cond.selects RX3 yX3_logByte yX3_logByte]
def wsX2_fits_r2 : List Cond := [Cond.code yX3_logByte cX3_logByte 2 (some .int)]
def wsX2_fits : List Cond := .code yX2_fits cX2_fits 5 (some .boolean) :: ((wsX2_fits_r1 ++ wsX2_fits_r2) ++ wsX20 ++ wsX30)
def wsX2_frontBytes : List Cond := .code yX2_frontBytes cX2_frontBytes 1 (some .int) :: ([.fieldLink RX2 9 "GroupLog$Reader" "front" "[I"] ++ wsX20)
def wsX2_isNext : List Cond := .code yX2_isNext cX2_isNext 3 (some .boolean) :: ([.fieldLink RX2 9 "GroupLog$Reader" "front" "[I", .methodLink RX2 104 yX2_frontBytes, .instanceMethod yX2_frontBytes, .selects RX2 yX2_frontBytes yX2_frontBytes, .initialized RX2, .code yX2_frontBytes cX2_frontBytes 1 (some .int)] ++ wsX20 ++ wsX00)
def wsX2_takeByte : List Cond := .code yX2_takeByte cX2_takeByte 5 none :: ([.fieldLink RX2 15 "GroupLog$Reader" "have" "I", .fieldLink RX2 19 "GroupLog$Reader" "beginPlace" "I", .fieldLink RX2 22 "GroupLog$Reader" "beginOffset" "I", .fieldLink RX2 9 "GroupLog$Reader" "front" "[I", .fieldLink RX2 25 "GroupLog$Reader" "ended" "Z", .methodLink RX2 100 yX2_isNext, .instanceMethod yX2_isNext, .selects RX2 yX2_isNext yX2_isNext, .initialized RX2, .code yX2_isNext cX2_isNext 3 (some .boolean), .methodLink RX2 104 yX2_frontBytes, .instanceMethod yX2_frontBytes, .selects RX2 yX2_frontBytes yX2_frontBytes, .code yX2_frontBytes cX2_frontBytes 1 (some .int), .methodLink RX2 107 yX0_addSafe, .instanceMethod yX0_addSafe, .selects RX0 yX0_addSafe yX0_addSafe, .initialized RX0, .code yX0_addSafe cX0_addSafe 3 none, .fieldLink RX0 26 "GroupLog$Log" "lastSafe" "I", .fieldLink RX0 9 "GroupLog$Log" "begins" "[I", .methodLink RX0 45 yX0_slotOf, .static yX0_slotOf, .code yX0_slotOf cX0_slotOf 1 (some .int)] ++ wsX20 ++ wsX00)
def wsX2_takeRecords_r1 : List Cond := [Cond.fieldLink RX2 15 "GroupLog$Reader" "have" "I", Cond.fieldLink RX2 25 "GroupLog$Reader" "ended" "Z", Cond.methodLink RX2 79 yX3_logBegin, Cond.instanceMethod yX3_logBegin, Cond.selects RX3 yX3_logBegin yX3_logBegin, Cond.initialized RX3, Cond.code yX3_logBegin cX3_logBegin 1 (some .int), Cond.methodLink RX3 27 yX3_get, Cond.instanceMethod yX3_get, Cond.selects RX3 yX3_get yX3_get, Cond.code yX3_get cX3_get 2 (some .int), Cond.fieldLink RX3 9 "GroupLog$Sector" "bytes" "[I", Cond.methodLink RX2 82 yX3_logBytes, Cond.instanceMethod yX3_logBytes, Cond.selects RX3 yX3_logBytes yX3_logBytes, Cond.code yX3_logBytes cX3_logBytes 1 (some .int), Cond.methodLink RX2 89 yX3_logByte, Cond.instanceMethod yX3_logByte, Cond.selects RX3 yX3_logByte yX3_logByte, Cond.code yX3_logByte cX3_logByte 2 (some .int), Cond.methodLink RX2 96 yX2_takeByte, Cond.instanceMethod yX2_takeByte, Cond.selects RX2 yX2_takeByte yX2_takeByte, Cond.initialized RX2]
def wsX2_takeRecords_r2 : List Cond := [Cond.code yX2_takeByte cX2_takeByte 5 none, Cond.fieldLink RX2 19 "GroupLog$Reader" "beginPlace" "I", Cond.fieldLink RX2 22 "GroupLog$Reader" "beginOffset" "I", Cond.fieldLink RX2 9 "GroupLog$Reader" "front" "[I", Cond.methodLink RX2 100 yX2_isNext, Cond.instanceMethod yX2_isNext, Cond.selects RX2 yX2_isNext yX2_isNext, Cond.code yX2_isNext cX2_isNext 3 (some .boolean), Cond.methodLink RX2 104 yX2_frontBytes, Cond.instanceMethod yX2_frontBytes, Cond.selects RX2 yX2_frontBytes yX2_frontBytes, Cond.code yX2_frontBytes cX2_frontBytes 1 (some .int), Cond.methodLink RX2 107 yX0_addSafe, Cond.instanceMethod yX0_addSafe, Cond.selects RX0 yX0_addSafe yX0_addSafe, Cond.initialized RX0, Cond.code yX0_addSafe cX0_addSafe 3 none, Cond.fieldLink RX0 26 "GroupLog$Log" "lastSafe" "I", Cond.fieldLink RX0 9 "GroupLog$Log" "begins" "[I", Cond.methodLink RX0 45 yX0_slotOf, Cond.static yX0_slotOf, Cond.code yX0_slotOf cX0_slotOf 1 (some .int)]
def wsX2_takeRecords : List Cond := .code yX2_takeRecords cX2_takeRecords 8 (some .boolean) :: ((wsX2_takeRecords_r1 ++ wsX2_takeRecords_r2) ++ wsX00 ++ wsX20 ++ wsX30)
def wsX2_readInto_r1 : List Cond := [Cond.fieldLink RX2 15 "GroupLog$Reader" "have" "I", Cond.fieldLink RX2 25 "GroupLog$Reader" "ended" "Z", Cond.methodLink RX2 37 yX4_sector, Cond.instanceMethod yX4_sector, Cond.selects RX4 yX4_sector yX4_sector, Cond.initialized RX4, Cond.code yX4_sector cX4_sector 2 (some (.object "GroupLog$Sector")), Cond.fieldLink RX4 11 "GroupLog$Store" "sectors" "[LGroupLog$Sector;", Cond.methodLink RX2 43 yX3_isSoundLog, Cond.instanceMethod yX3_isSoundLog, Cond.selects RX3 yX3_isSoundLog yX3_isSoundLog, Cond.initialized RX3, Cond.code yX3_isSoundLog cX3_isSoundLog 1 (some .boolean), Cond.fieldLink RX3 15 "GroupLog$Sector" "isTorn" "Z", Cond.methodLink RX3 62 yX3_logBytes, Cond.instanceMethod yX3_logBytes, Cond.selects RX3 yX3_logBytes yX3_logBytes, Cond.code yX3_logBytes cX3_logBytes 1 (some .int), Cond.methodLink RX3 27 yX3_get, Cond.instanceMethod yX3_get, Cond.selects RX3 yX3_get yX3_get, Cond.code yX3_get cX3_get 2 (some .int), Cond.fieldLink RX3 9 "GroupLog$Sector" "bytes" "[I", Cond.methodLink RX3 46 yX3_number]
def wsX2_readInto_r2 : List Cond := [Cond.instanceMethod yX3_number, Cond.selects RX3 yX3_number yX3_number, Cond.code yX3_number cX3_number 2 (some .int), Cond.methodLink RX3 59 yX3_logSum, Cond.instanceMethod yX3_logSum, Cond.selects RX3 yX3_logSum yX3_logSum, Cond.code yX3_logSum cX3_logSum 1 (some .int), Cond.methodLink RX3 32 yX3_sumOver, Cond.instanceMethod yX3_sumOver, Cond.selects RX3 yX3_sumOver yX3_sumOver, Cond.code yX3_sumOver cX3_sumOver 7 (some .int), Cond.constant RX3 31 (-306674912), Cond.methodLink RX2 49 yX3_serial, Cond.instanceMethod yX3_serial, Cond.selects RX3 yX3_serial yX3_serial, Cond.code yX3_serial cX3_serial 1 (some .int), Cond.methodLink RX2 53 yX3_logVersion, Cond.instanceMethod yX3_logVersion, Cond.selects RX3 yX3_logVersion yX3_logVersion, Cond.code yX3_logVersion cX3_logVersion 1 (some .int), Cond.static yX5_isBelow, Cond.initialized RX5, Cond.code yX5_isBelow cX5_isBelow 2 (some .boolean), Cond.constantLong RX5 193 (4294967295)]
def wsX2_readInto_r3 : List Cond := [Cond.methodLink RX2 60 yX2_fits, Cond.instanceMethod yX2_fits, Cond.selects RX2 yX2_fits yX2_fits, Cond.initialized RX2, Cond.code yX2_fits cX2_fits 5 (some .boolean), Cond.methodLink RX2 79 yX3_logBegin, Cond.instanceMethod yX3_logBegin, Cond.selects RX3 yX3_logBegin yX3_logBegin, Cond.code yX3_logBegin cX3_logBegin 1 (some .int), Cond.methodLink RX2 82 yX3_logBytes, Cond.methodLink RX2 85 yX2_lackingBefore, Cond.instanceMethod yX2_lackingBefore, Cond.selects RX2 yX2_lackingBefore yX2_lackingBefore, Cond.code yX2_lackingBefore cX2_lackingBefore 4 (some .int), Cond.fieldLink RX2 9 "GroupLog$Reader" "front" "[I", Cond.methodLink RX2 89 yX3_logByte, Cond.instanceMethod yX3_logByte, Cond.selects RX3 yX3_logByte yX3_logByte, Cond.code yX3_logByte cX3_logByte 2 (some .int), Cond.methodLink RX2 64 yX2_takeRecords, Cond.instanceMethod yX2_takeRecords, Cond.selects RX2 yX2_takeRecords yX2_takeRecords, Cond.code yX2_takeRecords cX2_takeRecords 8 (some .boolean), Cond.methodLink RX2 96 yX2_takeByte]
def wsX2_readInto_r4 : List Cond := [Cond.instanceMethod yX2_takeByte, Cond.selects RX2 yX2_takeByte yX2_takeByte, Cond.code yX2_takeByte cX2_takeByte 5 none, Cond.fieldLink RX2 19 "GroupLog$Reader" "beginPlace" "I", Cond.fieldLink RX2 22 "GroupLog$Reader" "beginOffset" "I", Cond.methodLink RX2 100 yX2_isNext, Cond.instanceMethod yX2_isNext, Cond.selects RX2 yX2_isNext yX2_isNext, Cond.code yX2_isNext cX2_isNext 3 (some .boolean), Cond.methodLink RX2 104 yX2_frontBytes, Cond.instanceMethod yX2_frontBytes, Cond.selects RX2 yX2_frontBytes yX2_frontBytes, Cond.code yX2_frontBytes cX2_frontBytes 1 (some .int), Cond.methodLink RX2 107 yX0_addSafe, Cond.instanceMethod yX0_addSafe, Cond.selects RX0 yX0_addSafe yX0_addSafe, Cond.initialized RX0, Cond.code yX0_addSafe cX0_addSafe 3 none, Cond.fieldLink RX0 26 "GroupLog$Log" "lastSafe" "I", Cond.fieldLink RX0 9 "GroupLog$Log" "begins" "[I", Cond.methodLink RX0 45 yX0_slotOf, Cond.static yX0_slotOf, Cond.code yX0_slotOf cX0_slotOf 1 (some .int), Cond.methodLink RX2 71 yX0_advance]
def wsX2_readInto_r5 : List Cond := [Cond.instanceMethod yX0_advance, Cond.selects RX0 yX0_advance yX0_advance, Cond.code yX0_advance cX0_advance 2 none, Cond.fieldLink RX0 32 "GroupLog$Log" "used" "I", Cond.fieldLink RX0 35 "GroupLog$Log" "nextPlace" "I", Cond.fieldLink RX0 38 "GroupLog$Log" "nextSerial" "I", Cond.static yX5_placeBehind, Cond.code yX5_placeBehind cX5_placeBehind 2 (some .int), Cond.methodLink RX5 195 yJ9_floorMod_7cf53, Cond.static yJ9_floorMod_7cf53, Cond.initialized RJ9, Cond.code yJ9_floorMod_7cf53 cJ9_floorMod_7cf53 3 (some .int)]
def wsX2_readInto : List Cond := .code yX2_readInto cX2_readInto 9 none :: ((wsX2_readInto_r1 ++ (wsX2_readInto_r2 ++ (wsX2_readInto_r3 ++ (wsX2_readInto_r4 ++ wsX2_readInto_r5)))) ++ wsX00 ++ wsX20 ++ wsX40 ++ wsX30)
def wsX3_init : List Cond := .code yX3_init cX3_init 1 none :: ([.methodLink RX3 3 objectInit, .instanceMethod objectInit, .code objectInit ⟨#[0xb1]⟩ 1 none, .arrayClass .int, .fieldLink RX3 9 "GroupLog$Sector" "bytes" "[I", .fieldLink RX3 15 "GroupLog$Sector" "isTorn" "Z"] ++ wsX30)
def wsX3_setNumber : List Cond := .code yX3_setNumber cX3_setNumber 3 none :: ([.methodLink RX3 19 yX3_set, .instanceMethod yX3_set, .selects RX3 yX3_set yX3_set, .initialized RX3, .code yX3_set cX3_set 3 none, .fieldLink RX3 9 "GroupLog$Sector" "bytes" "[I"] ++ wsX30)
def wsX3_takeBytes : List Cond := .code yX3_takeBytes cX3_takeBytes 4 none :: ([.methodLink RX3 27 yX3_get, .instanceMethod yX3_get, .selects RX3 yX3_get yX3_get, .initialized RX3, .code yX3_get cX3_get 2 (some .int), .fieldLink RX3 9 "GroupLog$Sector" "bytes" "[I", .methodLink RX3 19 yX3_set, .instanceMethod yX3_set, .selects RX3 yX3_set yX3_set, .code yX3_set cX3_set 3 none] ++ wsX30)
def wsX3_takeWhole : List Cond := .code yX3_takeWhole cX3_takeWhole 2 none :: ([.fieldLink RX3 15 "GroupLog$Sector" "isTorn" "Z", .methodLink RX3 23 yX3_takeBytes, .instanceMethod yX3_takeBytes, .selects RX3 yX3_takeBytes yX3_takeBytes, .initialized RX3, .code yX3_takeBytes cX3_takeBytes 4 none, .methodLink RX3 27 yX3_get, .instanceMethod yX3_get, .selects RX3 yX3_get yX3_get, .code yX3_get cX3_get 2 (some .int), .fieldLink RX3 9 "GroupLog$Sector" "bytes" "[I", .methodLink RX3 19 yX3_set, .instanceMethod yX3_set, .selects RX3 yX3_set yX3_set, .code yX3_set cX3_set 3 none] ++ wsX30)
def wsX3_takePart : List Cond := .code yX3_takePart cX3_takePart 3 none :: ([.fieldLink RX3 15 "GroupLog$Sector" "isTorn" "Z", .methodLink RX3 23 yX3_takeBytes, .instanceMethod yX3_takeBytes, .selects RX3 yX3_takeBytes yX3_takeBytes, .initialized RX3, .code yX3_takeBytes cX3_takeBytes 4 none, .methodLink RX3 27 yX3_get, .instanceMethod yX3_get, .selects RX3 yX3_get yX3_get, .code yX3_get cX3_get 2 (some .int), .fieldLink RX3 9 "GroupLog$Sector" "bytes" "[I", .methodLink RX3 19 yX3_set, .instanceMethod yX3_set, .selects RX3 yX3_set yX3_set, .code yX3_set cX3_set 3 none] ++ wsX30)
def wsX3_headSum : List Cond := .code yX3_headSum cX3_headSum 1 (some .int) :: ([.methodLink RX3 32 yX3_sumOver, .instanceMethod yX3_sumOver, .selects RX3 yX3_sumOver yX3_sumOver, .initialized RX3, .code yX3_sumOver cX3_sumOver 7 (some .int), .fieldLink RX3 9 "GroupLog$Sector" "bytes" "[I", .constant RX3 31 (-306674912)] ++ wsX30)
def wsX3_makeHead : List Cond := .code yX3_makeHead cX3_makeHead 5 none :: ([.methodLink RX3 36 yX3_clear, .instanceMethod yX3_clear, .selects RX3 yX3_clear yX3_clear, .initialized RX3, .code yX3_clear cX3_clear 2 none, .fieldLink RX3 9 "GroupLog$Sector" "bytes" "[I", .methodLink RX3 39 yX3_setNumber, .instanceMethod yX3_setNumber, .selects RX3 yX3_setNumber yX3_setNumber, .code yX3_setNumber cX3_setNumber 3 none, .methodLink RX3 19 yX3_set, .instanceMethod yX3_set, .selects RX3 yX3_set yX3_set, .code yX3_set cX3_set 3 none, .methodLink RX3 42 yX3_headSum, .instanceMethod yX3_headSum, .selects RX3 yX3_headSum yX3_headSum, .code yX3_headSum cX3_headSum 1 (some .int), .methodLink RX3 32 yX3_sumOver, .instanceMethod yX3_sumOver, .selects RX3 yX3_sumOver yX3_sumOver, .code yX3_sumOver cX3_sumOver 7 (some .int), .constant RX3 31 (-306674912)] ++ wsX30)
def wsX3_headVersion : List Cond := .code yX3_headVersion cX3_headVersion 1 (some .int) :: ([.methodLink RX3 46 yX3_number, .instanceMethod yX3_number, .selects RX3 yX3_number yX3_number, .initialized RX3, .code yX3_number cX3_number 2 (some .int), .fieldLink RX3 9 "GroupLog$Sector" "bytes" "[I"] ++ wsX30)
def wsX3_headRecord : List Cond := .code yX3_headRecord cX3_headRecord 1 (some .int) :: ([.methodLink RX3 46 yX3_number, .instanceMethod yX3_number, .selects RX3 yX3_number yX3_number, .initialized RX3, .code yX3_number cX3_number 2 (some .int), .fieldLink RX3 9 "GroupLog$Sector" "bytes" "[I"] ++ wsX30)
def wsX3_headPlace : List Cond := .code yX3_headPlace cX3_headPlace 1 (some .int) :: ([.methodLink RX3 27 yX3_get, .instanceMethod yX3_get, .selects RX3 yX3_get yX3_get, .initialized RX3, .code yX3_get cX3_get 2 (some .int), .fieldLink RX3 9 "GroupLog$Sector" "bytes" "[I"] ++ wsX30)
def wsX3_isGoodHead_r1 : List Cond := [Cond.fieldLink RX3 15 "GroupLog$Sector" "isTorn" "Z", Cond.constant RX3 55 (1000000000), Cond.methodLink RX3 46 yX3_number, Cond.instanceMethod yX3_number, Cond.selects RX3 yX3_number yX3_number, Cond.initialized RX3, Cond.code yX3_number cX3_number 2 (some .int), Cond.fieldLink RX3 9 "GroupLog$Sector" "bytes" "[I", Cond.methodLink RX3 42 yX3_headSum, Cond.instanceMethod yX3_headSum, Cond.selects RX3 yX3_headSum yX3_headSum, Cond.code yX3_headSum cX3_headSum 1 (some .int), Cond.methodLink RX3 32 yX3_sumOver, Cond.instanceMethod yX3_sumOver, Cond.selects RX3 yX3_sumOver yX3_sumOver, Cond.code yX3_sumOver cX3_sumOver 7 (some .int), Cond.constant RX3 31 (-306674912), Cond.methodLink RX3 49 yX3_headVersion, Cond.instanceMethod yX3_headVersion, Cond.selects RX3 yX3_headVersion yX3_headVersion, Cond.code yX3_headVersion cX3_headVersion 1 (some .int), Cond.methodLink RX3 52 yX3_headRecord, Cond.instanceMethod yX3_headRecord, Cond.selects RX3 yX3_headRecord yX3_headRecord]
def wsX3_isGoodHead_r2 : List Cond := [Cond.code yX3_headRecord cX3_headRecord 1 (some .int), Cond.methodLink RX3 56 yX3_headPlace, Cond.instanceMethod yX3_headPlace, Cond.selects RX3 yX3_headPlace yX3_headPlace, Cond.code yX3_headPlace cX3_headPlace 1 (some .int), Cond.methodLink RX3 27 yX3_get, Cond.instanceMethod yX3_get, Cond.selects RX3 yX3_get yX3_get, Cond.code yX3_get cX3_get 2 (some .int)]
def wsX3_isGoodHead : List Cond := .code yX3_isGoodHead cX3_isGoodHead 1 (some .boolean) :: ((wsX3_isGoodHead_r1 ++ wsX3_isGoodHead_r2) ++ wsX30)
def wsX3_headSerial : List Cond := .code yX3_headSerial cX3_headSerial 1 (some .int) :: ([.methodLink RX3 46 yX3_number, .instanceMethod yX3_number, .selects RX3 yX3_number yX3_number, .initialized RX3, .code yX3_number cX3_number 2 (some .int), .fieldLink RX3 9 "GroupLog$Sector" "bytes" "[I"] ++ wsX30)
def wsX3_sealLog : List Cond := .code yX3_sealLog cX3_sealLog 3 none :: ([.methodLink RX3 39 yX3_setNumber, .instanceMethod yX3_setNumber, .selects RX3 yX3_setNumber yX3_setNumber, .initialized RX3, .code yX3_setNumber cX3_setNumber 3 none, .methodLink RX3 19 yX3_set, .instanceMethod yX3_set, .selects RX3 yX3_set yX3_set, .code yX3_set cX3_set 3 none, .fieldLink RX3 9 "GroupLog$Sector" "bytes" "[I", .methodLink RX3 59 yX3_logSum, .instanceMethod yX3_logSum, .selects RX3 yX3_logSum yX3_logSum, .code yX3_logSum cX3_logSum 1 (some .int), .methodLink RX3 32 yX3_sumOver, .instanceMethod yX3_sumOver, .selects RX3 yX3_sumOver yX3_sumOver, .code yX3_sumOver cX3_sumOver 7 (some .int), .constant RX3 31 (-306674912)] ++ wsX30)
def wsX4_init : List Cond := .code yX4_init cX4_init 2 none :: ([.methodLink RX4 3 objectInit, .instanceMethod objectInit, .code objectInit ⟨#[0xb1]⟩ 1 none, .classLink RX4 9 RX3, .fieldLink RX4 11 "GroupLog$Store" "sectors" "[LGroupLog$Sector;", .instantiable RX3 2, .initialized RX3, .fieldLink RX4 18 "GroupLog$Store" "steps" "I", .fieldLink RX4 22 "GroupLog$Store" "stepsLeft" "I", .fieldLink RX4 25 "GroupLog$Store" "part" "I", .methodLink RX4 17 yX3_init, .instanceMethod yX3_init, .code yX3_init cX3_init 1 none, .methodLink RX3 3 objectInit, .arrayClass .int, .fieldLink RX3 9 "GroupLog$Sector" "bytes" "[I", .fieldLink RX3 15 "GroupLog$Sector" "isTorn" "Z"] ++ wsX40 ++ wsX30)
def wsX4_write_r1 : List Cond := [Cond.fieldLink RX4 22 "GroupLog$Store" "stepsLeft" "I", Cond.fieldLink RX4 25 "GroupLog$Store" "part" "I", Cond.fieldLink RX4 18 "GroupLog$Store" "steps" "I", Cond.methodLink RX4 28 yX4_sector, Cond.instanceMethod yX4_sector, Cond.selects RX4 yX4_sector yX4_sector, Cond.initialized RX4, Cond.code yX4_sector cX4_sector 2 (some (.object "GroupLog$Sector")), Cond.fieldLink RX4 11 "GroupLog$Store" "sectors" "[LGroupLog$Sector;", Cond.methodLink RX4 32 yX3_takePart, Cond.instanceMethod yX3_takePart, Cond.selects RX3 yX3_takePart yX3_takePart, Cond.initialized RX3, Cond.code yX3_takePart cX3_takePart 3 none, Cond.fieldLink RX3 15 "GroupLog$Sector" "isTorn" "Z", Cond.methodLink RX3 23 yX3_takeBytes, Cond.instanceMethod yX3_takeBytes, Cond.selects RX3 yX3_takeBytes yX3_takeBytes, Cond.code yX3_takeBytes cX3_takeBytes 4 none, Cond.methodLink RX3 27 yX3_get, Cond.instanceMethod yX3_get, Cond.selects RX3 yX3_get yX3_get, Cond.code yX3_get cX3_get 2 (some .int), Cond.fieldLink RX3 9 "GroupLog$Sector" "bytes" "[I"]
def wsX4_write_r2 : List Cond := [Cond.methodLink RX3 19 yX3_set, Cond.instanceMethod yX3_set, Cond.selects RX3 yX3_set yX3_set, Cond.code yX3_set cX3_set 3 none, Cond.methodLink RX4 36 yX3_takeWhole, Cond.instanceMethod yX3_takeWhole, Cond.selects RX3 yX3_takeWhole yX3_takeWhole, Cond.code yX3_takeWhole cX3_takeWhole 2 none]
def wsX4_write : List Cond := .code yX4_write cX4_write 3 (some .boolean) :: ((wsX4_write_r1 ++ wsX4_write_r2) ++ wsX40 ++ wsX30)
def wsX4_latestHead_r1 : List Cond := [Cond.methodLink RX4 28 yX4_sector, Cond.instanceMethod yX4_sector, Cond.selects RX4 yX4_sector yX4_sector, Cond.initialized RX4, Cond.code yX4_sector cX4_sector 2 (some (.object "GroupLog$Sector")), Cond.fieldLink RX4 11 "GroupLog$Store" "sectors" "[LGroupLog$Sector;", Cond.methodLink RX4 40 yX3_isGoodHead, Cond.instanceMethod yX3_isGoodHead, Cond.selects RX3 yX3_isGoodHead yX3_isGoodHead, Cond.initialized RX3, Cond.code yX3_isGoodHead cX3_isGoodHead 1 (some .boolean), Cond.fieldLink RX3 15 "GroupLog$Sector" "isTorn" "Z", Cond.constant RX3 55 (1000000000), Cond.methodLink RX3 46 yX3_number, Cond.instanceMethod yX3_number, Cond.selects RX3 yX3_number yX3_number, Cond.code yX3_number cX3_number 2 (some .int), Cond.fieldLink RX3 9 "GroupLog$Sector" "bytes" "[I", Cond.methodLink RX3 42 yX3_headSum, Cond.instanceMethod yX3_headSum, Cond.selects RX3 yX3_headSum yX3_headSum, Cond.code yX3_headSum cX3_headSum 1 (some .int), Cond.methodLink RX3 32 yX3_sumOver, Cond.instanceMethod yX3_sumOver]
def wsX4_latestHead_r2 : List Cond := [Cond.selects RX3 yX3_sumOver yX3_sumOver, Cond.code yX3_sumOver cX3_sumOver 7 (some .int), Cond.constant RX3 31 (-306674912), Cond.methodLink RX3 49 yX3_headVersion, Cond.instanceMethod yX3_headVersion, Cond.selects RX3 yX3_headVersion yX3_headVersion, Cond.code yX3_headVersion cX3_headVersion 1 (some .int), Cond.methodLink RX3 52 yX3_headRecord, Cond.instanceMethod yX3_headRecord, Cond.selects RX3 yX3_headRecord yX3_headRecord, Cond.code yX3_headRecord cX3_headRecord 1 (some .int), Cond.methodLink RX3 56 yX3_headPlace, Cond.instanceMethod yX3_headPlace, Cond.selects RX3 yX3_headPlace yX3_headPlace, Cond.code yX3_headPlace cX3_headPlace 1 (some .int), Cond.methodLink RX3 27 yX3_get, Cond.instanceMethod yX3_get, Cond.selects RX3 yX3_get yX3_get, Cond.code yX3_get cX3_get 2 (some .int), Cond.methodLink RX4 44 yX3_headVersion, Cond.static yX5_isBelow, Cond.initialized RX5, Cond.code yX5_isBelow cX5_isBelow 2 (some .boolean), Cond.constantLong RX5 193 (4294967295)]
def wsX4_latestHead : List Cond := .code yX4_latestHead cX4_latestHead 3 (some .int) :: ((wsX4_latestHead_r1 ++ wsX4_latestHead_r2) ++ wsX40 ++ wsX30)
def wsX4_headVersion_r1 : List Cond := [Cond.methodLink RX4 52 yX4_latestHead, Cond.instanceMethod yX4_latestHead, Cond.selects RX4 yX4_latestHead yX4_latestHead, Cond.initialized RX4, Cond.code yX4_latestHead cX4_latestHead 3 (some .int), Cond.methodLink RX4 28 yX4_sector, Cond.instanceMethod yX4_sector, Cond.selects RX4 yX4_sector yX4_sector, Cond.code yX4_sector cX4_sector 2 (some (.object "GroupLog$Sector")), Cond.fieldLink RX4 11 "GroupLog$Store" "sectors" "[LGroupLog$Sector;", Cond.methodLink RX4 40 yX3_isGoodHead, Cond.instanceMethod yX3_isGoodHead, Cond.selects RX3 yX3_isGoodHead yX3_isGoodHead, Cond.initialized RX3, Cond.code yX3_isGoodHead cX3_isGoodHead 1 (some .boolean), Cond.fieldLink RX3 15 "GroupLog$Sector" "isTorn" "Z", Cond.constant RX3 55 (1000000000), Cond.methodLink RX3 46 yX3_number, Cond.instanceMethod yX3_number, Cond.selects RX3 yX3_number yX3_number, Cond.code yX3_number cX3_number 2 (some .int), Cond.fieldLink RX3 9 "GroupLog$Sector" "bytes" "[I", Cond.methodLink RX3 42 yX3_headSum, Cond.instanceMethod yX3_headSum]
def wsX4_headVersion_r2 : List Cond := [Cond.selects RX3 yX3_headSum yX3_headSum, Cond.code yX3_headSum cX3_headSum 1 (some .int), Cond.methodLink RX3 32 yX3_sumOver, Cond.instanceMethod yX3_sumOver, Cond.selects RX3 yX3_sumOver yX3_sumOver, Cond.code yX3_sumOver cX3_sumOver 7 (some .int), Cond.constant RX3 31 (-306674912), Cond.methodLink RX3 49 yX3_headVersion, Cond.instanceMethod yX3_headVersion, Cond.selects RX3 yX3_headVersion yX3_headVersion, Cond.code yX3_headVersion cX3_headVersion 1 (some .int), Cond.methodLink RX3 52 yX3_headRecord, Cond.instanceMethod yX3_headRecord, Cond.selects RX3 yX3_headRecord yX3_headRecord, Cond.code yX3_headRecord cX3_headRecord 1 (some .int), Cond.methodLink RX3 56 yX3_headPlace, Cond.instanceMethod yX3_headPlace, Cond.selects RX3 yX3_headPlace yX3_headPlace, Cond.code yX3_headPlace cX3_headPlace 1 (some .int), Cond.methodLink RX3 27 yX3_get, Cond.instanceMethod yX3_get, Cond.selects RX3 yX3_get yX3_get, Cond.code yX3_get cX3_get 2 (some .int), Cond.methodLink RX4 44 yX3_headVersion]
def wsX4_headVersion_r3 : List Cond := [Cond.static yX5_isBelow, Cond.initialized RX5, Cond.code yX5_isBelow cX5_isBelow 2 (some .boolean), Cond.constantLong RX5 193 (4294967295)]
def wsX4_headVersion : List Cond := .code yX4_headVersion cX4_headVersion 2 (some .int) :: ((wsX4_headVersion_r1 ++ (wsX4_headVersion_r2 ++ wsX4_headVersion_r3)) ++ wsX40 ++ wsX30)
def wsX5_init_r1 : List Cond := [Cond.methodLink RX5 3 objectInit, Cond.instanceMethod objectInit, Cond.code objectInit ⟨#[0xb1]⟩ 1 none, Cond.classLink RX5 9 RX4, Cond.instantiable RX4 4, Cond.initialized RX4, Cond.fieldLink RX5 12 "GroupLog" "store" "LGroupLog$Store;", Cond.classLink RX5 16 RX1, Cond.instantiable RX1 4, Cond.initialized RX1, Cond.fieldLink RX5 19 "GroupLog" "queue" "LGroupLog$Queue;", Cond.classLink RX5 23 RX0, Cond.instantiable RX0 8, Cond.initialized RX0, Cond.fieldLink RX5 26 "GroupLog" "log" "LGroupLog$Log;", Cond.classLink RX5 30 RX2, Cond.instantiable RX2 5, Cond.initialized RX2, Cond.fieldLink RX5 33 "GroupLog" "reader" "LGroupLog$Reader;", Cond.classLink RX5 37 RX3, Cond.instantiable RX3 2, Cond.initialized RX3, Cond.fieldLink RX5 40 "GroupLog" "draft" "LGroupLog$Sector;", Cond.arrayClass .int]
def wsX5_init_r2 : List Cond := [Cond.fieldLink RX5 44 "GroupLog" "tape" "[I", Cond.fieldLink RX5 48 "GroupLog" "tapeBytes" "I", Cond.fieldLink RX5 52 "GroupLog" "delayTicks" "I", Cond.fieldLink RX5 55 "GroupLog" "flushes" "I", Cond.fieldLink RX5 58 "GroupLog" "on" "Z", Cond.methodLink RX5 11 yX4_init, Cond.instanceMethod yX4_init, Cond.code yX4_init cX4_init 2 none, Cond.methodLink RX4 3 objectInit, Cond.classLink RX4 9 RX3, Cond.fieldLink RX4 11 "GroupLog$Store" "sectors" "[LGroupLog$Sector;", Cond.fieldLink RX4 18 "GroupLog$Store" "steps" "I", Cond.fieldLink RX4 22 "GroupLog$Store" "stepsLeft" "I", Cond.fieldLink RX4 25 "GroupLog$Store" "part" "I", Cond.methodLink RX4 17 yX3_init, Cond.instanceMethod yX3_init, Cond.code yX3_init cX3_init 1 none, Cond.methodLink RX3 3 objectInit, Cond.fieldLink RX3 9 "GroupLog$Sector" "bytes" "[I", Cond.fieldLink RX3 15 "GroupLog$Sector" "isTorn" "Z", Cond.methodLink RX5 18 yX1_init, Cond.instanceMethod yX1_init, Cond.code yX1_init cX1_init 1 none, Cond.methodLink RX1 3 objectInit]
def wsX5_init_r3 : List Cond := [Cond.fieldLink RX1 9 "GroupLog$Queue" "bytes" "[I", Cond.fieldLink RX1 15 "GroupLog$Queue" "length" "I", Cond.fieldLink RX1 19 "GroupLog$Queue" "records" "I", Cond.fieldLink RX1 22 "GroupLog$Queue" "waited" "I", Cond.methodLink RX5 25 yX0_init, Cond.instanceMethod yX0_init, Cond.code yX0_init cX0_init 1 none, Cond.methodLink RX0 3 objectInit, Cond.fieldLink RX0 9 "GroupLog$Log" "begins" "[I", Cond.methodLink RX0 15 yX0_openAt, Cond.instanceMethod yX0_openAt, Cond.selects RX0 yX0_openAt yX0_openAt, Cond.code yX0_openAt cX0_openAt 4 none, Cond.fieldLink RX0 19 "GroupLog$Log" "firstRecord" "I", Cond.fieldLink RX0 23 "GroupLog$Log" "keptFrom" "I", Cond.fieldLink RX0 26 "GroupLog$Log" "lastSafe" "I", Cond.fieldLink RX0 29 "GroupLog$Log" "firstPlace" "I", Cond.fieldLink RX0 32 "GroupLog$Log" "used" "I", Cond.fieldLink RX0 35 "GroupLog$Log" "nextPlace" "I", Cond.fieldLink RX0 38 "GroupLog$Log" "nextSerial" "I", Cond.methodLink RX5 32 yX2_init, Cond.instanceMethod yX2_init, Cond.code yX2_init cX2_init 1 none, Cond.methodLink RX2 3 objectInit]
def wsX5_init_r4 : List Cond := [Cond.fieldLink RX2 9 "GroupLog$Reader" "front" "[I", Cond.fieldLink RX2 15 "GroupLog$Reader" "have" "I", Cond.fieldLink RX2 19 "GroupLog$Reader" "beginPlace" "I", Cond.fieldLink RX2 22 "GroupLog$Reader" "beginOffset" "I", Cond.fieldLink RX2 25 "GroupLog$Reader" "ended" "Z", Cond.methodLink RX5 39 yX3_init, Cond.methodLink RX5 62 yX4_sector, Cond.instanceMethod yX4_sector, Cond.selects RX4 yX4_sector yX4_sector, Cond.code yX4_sector cX4_sector 2 (some (.object "GroupLog$Sector")), Cond.methodLink RX5 66 yX3_makeHead, Cond.instanceMethod yX3_makeHead, Cond.selects RX3 yX3_makeHead yX3_makeHead, Cond.code yX3_makeHead cX3_makeHead 5 none, Cond.methodLink RX3 36 yX3_clear, Cond.instanceMethod yX3_clear, Cond.selects RX3 yX3_clear yX3_clear, Cond.code yX3_clear cX3_clear 2 none, Cond.methodLink RX3 39 yX3_setNumber, Cond.instanceMethod yX3_setNumber, Cond.selects RX3 yX3_setNumber yX3_setNumber, Cond.code yX3_setNumber cX3_setNumber 3 none, Cond.methodLink RX3 19 yX3_set, Cond.instanceMethod yX3_set]
def wsX5_init_r5 : List Cond := [Cond.selects RX3 yX3_set yX3_set, Cond.code yX3_set cX3_set 3 none, Cond.methodLink RX3 42 yX3_headSum, Cond.instanceMethod yX3_headSum, Cond.selects RX3 yX3_headSum yX3_headSum, Cond.code yX3_headSum cX3_headSum 1 (some .int), Cond.methodLink RX3 32 yX3_sumOver, Cond.instanceMethod yX3_sumOver, Cond.selects RX3 yX3_sumOver yX3_sumOver, Cond.code yX3_sumOver cX3_sumOver 7 (some .int), Cond.constant RX3 31 (-306674912), Cond.methodLink RX5 70 yX0_openAt]
def wsX5_init : List Cond := .code yX5_init cX5_init 1 none :: ((wsX5_init_r1 ++ (wsX5_init_r2 ++ (wsX5_init_r3 ++ (wsX5_init_r4 ++ wsX5_init_r5)))) ++ wsX40 ++ wsX50 ++ wsX10 ++ wsX00 ++ wsX20 ++ wsX30)
def wsX5_isTicks : List Cond := .code yX5_isTicks cX5_isTicks 1 (some .boolean) :: ([])
def wsX5_delay : List Cond := .code yX5_delay cX5_delay 2 (some .boolean) :: ([.fieldLink RX5 58 "GroupLog" "on" "Z", .fieldLink RX5 52 "GroupLog" "delayTicks" "I", .methodLink RX5 74 yX5_isTicks, .static yX5_isTicks, .initialized RX5, .code yX5_isTicks cX5_isTicks 1 (some .boolean)] ++ wsX50)
def wsX5_feed : List Cond := .code yX5_feed cX5_feed 2 (some .boolean) :: ([.fieldLink RX5 48 "GroupLog" "tapeBytes" "I", .fieldLink RX5 44 "GroupLog" "tape" "[I"] ++ wsX50)
def wsX5_powerGoes : List Cond := .code yX5_powerGoes cX5_powerGoes 1 none :: ([.fieldLink RX5 58 "GroupLog" "on" "Z", .fieldLink RX5 19 "GroupLog" "queue" "LGroupLog$Queue;", .fieldLink RX5 12 "GroupLog" "store" "LGroupLog$Store;", .methodLink RX5 201 yX1_empty, .instanceMethod yX1_empty, .selects RX1 yX1_empty yX1_empty, .initialized RX1, .code yX1_empty cX1_empty 1 none, .fieldLink RX1 15 "GroupLog$Queue" "length" "I", .fieldLink RX1 19 "GroupLog$Queue" "records" "I", .fieldLink RX1 22 "GroupLog$Queue" "waited" "I"] ++ wsX50 ++ wsX40 ++ wsX10)
def wsX5_writeDraft_r1 : List Cond := [Cond.fieldLink RX5 12 "GroupLog" "store" "LGroupLog$Store;", Cond.fieldLink RX5 40 "GroupLog" "draft" "LGroupLog$Sector;", Cond.methodLink RX5 204 yX4_write, Cond.instanceMethod yX4_write, Cond.selects RX4 yX4_write yX4_write, Cond.initialized RX4, Cond.code yX4_write cX4_write 3 (some .boolean), Cond.fieldLink RX4 22 "GroupLog$Store" "stepsLeft" "I", Cond.fieldLink RX4 25 "GroupLog$Store" "part" "I", Cond.fieldLink RX4 18 "GroupLog$Store" "steps" "I", Cond.methodLink RX4 28 yX4_sector, Cond.instanceMethod yX4_sector, Cond.selects RX4 yX4_sector yX4_sector, Cond.code yX4_sector cX4_sector 2 (some (.object "GroupLog$Sector")), Cond.fieldLink RX4 11 "GroupLog$Store" "sectors" "[LGroupLog$Sector;", Cond.methodLink RX4 32 yX3_takePart, Cond.instanceMethod yX3_takePart, Cond.selects RX3 yX3_takePart yX3_takePart, Cond.initialized RX3, Cond.code yX3_takePart cX3_takePart 3 none, Cond.fieldLink RX3 15 "GroupLog$Sector" "isTorn" "Z", Cond.methodLink RX3 23 yX3_takeBytes, Cond.instanceMethod yX3_takeBytes, Cond.selects RX3 yX3_takeBytes yX3_takeBytes]
def wsX5_writeDraft_r2 : List Cond := [Cond.code yX3_takeBytes cX3_takeBytes 4 none, Cond.methodLink RX3 27 yX3_get, Cond.instanceMethod yX3_get, Cond.selects RX3 yX3_get yX3_get, Cond.code yX3_get cX3_get 2 (some .int), Cond.fieldLink RX3 9 "GroupLog$Sector" "bytes" "[I", Cond.methodLink RX3 19 yX3_set, Cond.instanceMethod yX3_set, Cond.selects RX3 yX3_set yX3_set, Cond.code yX3_set cX3_set 3 none, Cond.methodLink RX4 36 yX3_takeWhole, Cond.instanceMethod yX3_takeWhole, Cond.selects RX3 yX3_takeWhole yX3_takeWhole, Cond.code yX3_takeWhole cX3_takeWhole 2 none, Cond.methodLink RX5 128 yX5_powerGoes, Cond.instanceMethod yX5_powerGoes, Cond.selects RX5 yX5_powerGoes yX5_powerGoes, Cond.initialized RX5, Cond.code yX5_powerGoes cX5_powerGoes 1 none, Cond.fieldLink RX5 58 "GroupLog" "on" "Z", Cond.fieldLink RX5 19 "GroupLog" "queue" "LGroupLog$Queue;", Cond.methodLink RX5 201 yX1_empty, Cond.instanceMethod yX1_empty, Cond.selects RX1 yX1_empty yX1_empty]
def wsX5_writeDraft_r3 : List Cond := [Cond.initialized RX1, Cond.code yX1_empty cX1_empty 1 none, Cond.fieldLink RX1 15 "GroupLog$Queue" "length" "I", Cond.fieldLink RX1 19 "GroupLog$Queue" "records" "I", Cond.fieldLink RX1 22 "GroupLog$Queue" "waited" "I"]
def wsX5_writeDraft : List Cond := .code yX5_writeDraft cX5_writeDraft 3 (some .boolean) :: ((wsX5_writeDraft_r1 ++ (wsX5_writeDraft_r2 ++ wsX5_writeDraft_r3)) ++ wsX50 ++ wsX40 ++ wsX30 ++ wsX10)
def wsX5_writeQueue_r1 : List Cond := [Cond.fieldLink RX5 26 "GroupLog" "log" "LGroupLog$Log;", Cond.fieldLink RX5 19 "GroupLog" "queue" "LGroupLog$Queue;", Cond.fieldLink RX5 12 "GroupLog" "store" "LGroupLog$Store;", Cond.fieldLink RX5 58 "GroupLog" "on" "Z", Cond.fieldLink RX5 40 "GroupLog" "draft" "LGroupLog$Sector;", Cond.fieldLink RX5 55 "GroupLog" "flushes" "I", Cond.methodLink RX5 78 yX1_sectorsWith, Cond.instanceMethod yX1_sectorsWith, Cond.selects RX1 yX1_sectorsWith yX1_sectorsWith, Cond.initialized RX1, Cond.code yX1_sectorsWith cX1_sectorsWith 2 (some .int), Cond.fieldLink RX1 15 "GroupLog$Queue" "length" "I", Cond.methodLink RX5 190 yX4_headVersion, Cond.instanceMethod yX4_headVersion, Cond.selects RX4 yX4_headVersion yX4_headVersion, Cond.initialized RX4, Cond.code yX4_headVersion cX4_headVersion 2 (some .int), Cond.methodLink RX4 52 yX4_latestHead, Cond.instanceMethod yX4_latestHead, Cond.selects RX4 yX4_latestHead yX4_latestHead, Cond.code yX4_latestHead cX4_latestHead 3 (some .int), Cond.methodLink RX4 28 yX4_sector, Cond.instanceMethod yX4_sector, Cond.selects RX4 yX4_sector yX4_sector]
def wsX5_writeQueue_r2 : List Cond := [Cond.code yX4_sector cX4_sector 2 (some (.object "GroupLog$Sector")), Cond.fieldLink RX4 11 "GroupLog$Store" "sectors" "[LGroupLog$Sector;", Cond.methodLink RX4 40 yX3_isGoodHead, Cond.instanceMethod yX3_isGoodHead, Cond.selects RX3 yX3_isGoodHead yX3_isGoodHead, Cond.initialized RX3, Cond.code yX3_isGoodHead cX3_isGoodHead 1 (some .boolean), Cond.fieldLink RX3 15 "GroupLog$Sector" "isTorn" "Z", Cond.constant RX3 55 (1000000000), Cond.methodLink RX3 46 yX3_number, Cond.instanceMethod yX3_number, Cond.selects RX3 yX3_number yX3_number, Cond.code yX3_number cX3_number 2 (some .int), Cond.fieldLink RX3 9 "GroupLog$Sector" "bytes" "[I", Cond.methodLink RX3 42 yX3_headSum, Cond.instanceMethod yX3_headSum, Cond.selects RX3 yX3_headSum yX3_headSum, Cond.code yX3_headSum cX3_headSum 1 (some .int), Cond.methodLink RX3 32 yX3_sumOver, Cond.instanceMethod yX3_sumOver, Cond.selects RX3 yX3_sumOver yX3_sumOver, Cond.code yX3_sumOver cX3_sumOver 7 (some .int), Cond.constant RX3 31 (-306674912), Cond.methodLink RX3 49 yX3_headVersion]
def wsX5_writeQueue_r3 : List Cond := [Cond.instanceMethod yX3_headVersion, Cond.selects RX3 yX3_headVersion yX3_headVersion, Cond.code yX3_headVersion cX3_headVersion 1 (some .int), Cond.methodLink RX3 52 yX3_headRecord, Cond.instanceMethod yX3_headRecord, Cond.selects RX3 yX3_headRecord yX3_headRecord, Cond.code yX3_headRecord cX3_headRecord 1 (some .int), Cond.methodLink RX3 56 yX3_headPlace, Cond.instanceMethod yX3_headPlace, Cond.selects RX3 yX3_headPlace yX3_headPlace, Cond.code yX3_headPlace cX3_headPlace 1 (some .int), Cond.methodLink RX3 27 yX3_get, Cond.instanceMethod yX3_get, Cond.selects RX3 yX3_get yX3_get, Cond.code yX3_get cX3_get 2 (some .int), Cond.methodLink RX4 44 yX3_headVersion, Cond.static yX5_isBelow, Cond.initialized RX5, Cond.code yX5_isBelow cX5_isBelow 2 (some .boolean), Cond.constantLong RX5 193 (4294967295), Cond.methodLink RX5 211 yX1_fill, Cond.instanceMethod yX1_fill, Cond.selects RX1 yX1_fill yX1_fill, Cond.code yX1_fill cX1_fill 7 none]
def wsX5_writeQueue_r4 : List Cond := [Cond.methodLink RX1 36 Lib.Math.min.name, Cond.static Lib.Math.min.name, Cond.initialized "java/lang/Math", Cond.code Lib.Math.min.name Lib.Math.min.code 2 (some .int), Cond.methodLink RX1 42 yX1_firstBeginFrom, Cond.instanceMethod yX1_firstBeginFrom, Cond.selects RX1 yX1_firstBeginFrom yX1_firstBeginFrom, Cond.code yX1_firstBeginFrom cX1_firstBeginFrom 4 (some .int), Cond.fieldLink RX1 19 "GroupLog$Queue" "records" "I", Cond.methodLink RX1 33 yX1_behindRecordAt, Cond.instanceMethod yX1_behindRecordAt, Cond.selects RX1 yX1_behindRecordAt yX1_behindRecordAt, Cond.code yX1_behindRecordAt cX1_behindRecordAt 2 (some .int), Cond.methodLink RX1 29 yX1_get, Cond.instanceMethod yX1_get, Cond.selects RX1 yX1_get yX1_get, Cond.code yX1_get cX1_get 2 (some .int), Cond.fieldLink RX1 9 "GroupLog$Queue" "bytes" "[I", Cond.methodLink RX1 45 yX3_clear, Cond.instanceMethod yX3_clear, Cond.selects RX3 yX3_clear yX3_clear, Cond.code yX3_clear cX3_clear 2 none, Cond.methodLink RX1 50 yX3_set, Cond.instanceMethod yX3_set]
def wsX5_writeQueue_r5 : List Cond := [Cond.selects RX3 yX3_set yX3_set, Cond.code yX3_set cX3_set 3 none, Cond.methodLink RX5 215 yX3_sealLog, Cond.instanceMethod yX3_sealLog, Cond.selects RX3 yX3_sealLog yX3_sealLog, Cond.code yX3_sealLog cX3_sealLog 3 none, Cond.methodLink RX3 39 yX3_setNumber, Cond.instanceMethod yX3_setNumber, Cond.selects RX3 yX3_setNumber yX3_setNumber, Cond.code yX3_setNumber cX3_setNumber 3 none, Cond.methodLink RX3 19 yX3_set, Cond.methodLink RX3 59 yX3_logSum, Cond.instanceMethod yX3_logSum, Cond.selects RX3 yX3_logSum yX3_logSum, Cond.code yX3_logSum cX3_logSum 1 (some .int), Cond.methodLink RX5 208 yX5_writeDraft, Cond.instanceMethod yX5_writeDraft, Cond.selects RX5 yX5_writeDraft yX5_writeDraft, Cond.code yX5_writeDraft cX5_writeDraft 3 (some .boolean), Cond.methodLink RX5 204 yX4_write, Cond.instanceMethod yX4_write, Cond.selects RX4 yX4_write yX4_write, Cond.code yX4_write cX4_write 3 (some .boolean), Cond.fieldLink RX4 22 "GroupLog$Store" "stepsLeft" "I"]
def wsX5_writeQueue_r6 : List Cond := [Cond.fieldLink RX4 25 "GroupLog$Store" "part" "I", Cond.fieldLink RX4 18 "GroupLog$Store" "steps" "I", Cond.methodLink RX4 32 yX3_takePart, Cond.instanceMethod yX3_takePart, Cond.selects RX3 yX3_takePart yX3_takePart, Cond.code yX3_takePart cX3_takePart 3 none, Cond.methodLink RX3 23 yX3_takeBytes, Cond.instanceMethod yX3_takeBytes, Cond.selects RX3 yX3_takeBytes yX3_takeBytes, Cond.code yX3_takeBytes cX3_takeBytes 4 none, Cond.methodLink RX4 36 yX3_takeWhole, Cond.instanceMethod yX3_takeWhole, Cond.selects RX3 yX3_takeWhole yX3_takeWhole, Cond.code yX3_takeWhole cX3_takeWhole 2 none, Cond.methodLink RX5 128 yX5_powerGoes, Cond.instanceMethod yX5_powerGoes, Cond.selects RX5 yX5_powerGoes yX5_powerGoes, Cond.code yX5_powerGoes cX5_powerGoes 1 none, Cond.methodLink RX5 201 yX1_empty, Cond.instanceMethod yX1_empty, Cond.selects RX1 yX1_empty yX1_empty, Cond.code yX1_empty cX1_empty 1 none, Cond.fieldLink RX1 22 "GroupLog$Queue" "waited" "I", Cond.methodLink RX5 218 yX0_advance]
def wsX5_writeQueue_r7 : List Cond := [Cond.instanceMethod yX0_advance, Cond.selects RX0 yX0_advance yX0_advance, Cond.initialized RX0, Cond.code yX0_advance cX0_advance 2 none, Cond.fieldLink RX0 32 "GroupLog$Log" "used" "I", Cond.fieldLink RX0 35 "GroupLog$Log" "nextPlace" "I", Cond.fieldLink RX0 38 "GroupLog$Log" "nextSerial" "I", Cond.static yX5_placeBehind, Cond.code yX5_placeBehind cX5_placeBehind 2 (some .int), Cond.methodLink RX5 195 yJ9_floorMod_7cf53, Cond.static yJ9_floorMod_7cf53, Cond.initialized RJ9, Cond.code yJ9_floorMod_7cf53 cJ9_floorMod_7cf53 3 (some .int), Cond.methodLink RX5 222 yX1_tellTo, Cond.instanceMethod yX1_tellTo, Cond.selects RX1 yX1_tellTo yX1_tellTo, Cond.code yX1_tellTo cX1_tellTo 5 none, Cond.methodLink RX1 57 yX0_addSafe, Cond.instanceMethod yX0_addSafe, Cond.selects RX0 yX0_addSafe yX0_addSafe, Cond.code yX0_addSafe cX0_addSafe 3 none, Cond.fieldLink RX0 26 "GroupLog$Log" "lastSafe" "I", Cond.fieldLink RX0 9 "GroupLog$Log" "begins" "[I", Cond.methodLink RX0 45 yX0_slotOf]
def wsX5_writeQueue_r8 : List Cond := [Cond.static yX0_slotOf, Cond.code yX0_slotOf cX0_slotOf 1 (some .int)]
def wsX5_writeQueue : List Cond := .code yX5_writeQueue cX5_writeQueue 6 (some .int) :: ((wsX5_writeQueue_r1 ++ (wsX5_writeQueue_r2 ++ (wsX5_writeQueue_r3 ++ (wsX5_writeQueue_r4 ++ (wsX5_writeQueue_r5 ++ (wsX5_writeQueue_r6 ++ (wsX5_writeQueue_r7 ++ wsX5_writeQueue_r8))))))) ++ wsX50 ++ wsX00 ++ wsX10 ++ wsX40 ++ wsX30)
def wsX5_append_r1 : List Cond := [Cond.fieldLink RX5 58 "GroupLog" "on" "Z", Cond.fieldLink RX5 48 "GroupLog" "tapeBytes" "I", Cond.fieldLink RX5 19 "GroupLog" "queue" "LGroupLog$Queue;", Cond.fieldLink RX5 26 "GroupLog" "log" "LGroupLog$Log;", Cond.fieldLink RX5 44 "GroupLog" "tape" "[I", Cond.methodLink RX5 78 yX1_sectorsWith, Cond.instanceMethod yX1_sectorsWith, Cond.selects RX1 yX1_sectorsWith yX1_sectorsWith, Cond.initialized RX1, Cond.code yX1_sectorsWith cX1_sectorsWith 2 (some .int), Cond.fieldLink RX1 15 "GroupLog$Queue" "length" "I", Cond.methodLink RX5 91 yX1_add, Cond.instanceMethod yX1_add, Cond.selects RX1 yX1_add yX1_add, Cond.code yX1_add cX1_add 5 none, Cond.fieldLink RX1 19 "GroupLog$Queue" "records" "I", Cond.methodLink RX1 25 yX1_put, Cond.instanceMethod yX1_put, Cond.selects RX1 yX1_put yX1_put, Cond.code yX1_put cX1_put 2 none, Cond.fieldLink RX1 9 "GroupLog$Queue" "bytes" "[I", Cond.methodLink RX5 98 yX5_writeQueue, Cond.instanceMethod yX5_writeQueue, Cond.selects RX5 yX5_writeQueue yX5_writeQueue]
def wsX5_append_r2 : List Cond := [Cond.initialized RX5, Cond.code yX5_writeQueue cX5_writeQueue 6 (some .int), Cond.fieldLink RX5 12 "GroupLog" "store" "LGroupLog$Store;", Cond.fieldLink RX5 40 "GroupLog" "draft" "LGroupLog$Sector;", Cond.fieldLink RX5 55 "GroupLog" "flushes" "I", Cond.methodLink RX5 190 yX4_headVersion, Cond.instanceMethod yX4_headVersion, Cond.selects RX4 yX4_headVersion yX4_headVersion, Cond.initialized RX4, Cond.code yX4_headVersion cX4_headVersion 2 (some .int), Cond.methodLink RX4 52 yX4_latestHead, Cond.instanceMethod yX4_latestHead, Cond.selects RX4 yX4_latestHead yX4_latestHead, Cond.code yX4_latestHead cX4_latestHead 3 (some .int), Cond.methodLink RX4 28 yX4_sector, Cond.instanceMethod yX4_sector, Cond.selects RX4 yX4_sector yX4_sector, Cond.code yX4_sector cX4_sector 2 (some (.object "GroupLog$Sector")), Cond.fieldLink RX4 11 "GroupLog$Store" "sectors" "[LGroupLog$Sector;", Cond.methodLink RX4 40 yX3_isGoodHead, Cond.instanceMethod yX3_isGoodHead, Cond.selects RX3 yX3_isGoodHead yX3_isGoodHead, Cond.initialized RX3, Cond.code yX3_isGoodHead cX3_isGoodHead 1 (some .boolean)]
def wsX5_append_r3 : List Cond := [Cond.fieldLink RX3 15 "GroupLog$Sector" "isTorn" "Z", Cond.constant RX3 55 (1000000000), Cond.methodLink RX3 46 yX3_number, Cond.instanceMethod yX3_number, Cond.selects RX3 yX3_number yX3_number, Cond.code yX3_number cX3_number 2 (some .int), Cond.fieldLink RX3 9 "GroupLog$Sector" "bytes" "[I", Cond.methodLink RX3 42 yX3_headSum, Cond.instanceMethod yX3_headSum, Cond.selects RX3 yX3_headSum yX3_headSum, Cond.code yX3_headSum cX3_headSum 1 (some .int), Cond.methodLink RX3 32 yX3_sumOver, Cond.instanceMethod yX3_sumOver, Cond.selects RX3 yX3_sumOver yX3_sumOver, Cond.code yX3_sumOver cX3_sumOver 7 (some .int), Cond.constant RX3 31 (-306674912), Cond.methodLink RX3 49 yX3_headVersion, Cond.instanceMethod yX3_headVersion, Cond.selects RX3 yX3_headVersion yX3_headVersion, Cond.code yX3_headVersion cX3_headVersion 1 (some .int), Cond.methodLink RX3 52 yX3_headRecord, Cond.instanceMethod yX3_headRecord, Cond.selects RX3 yX3_headRecord yX3_headRecord, Cond.code yX3_headRecord cX3_headRecord 1 (some .int)]
def wsX5_append_r4 : List Cond := [Cond.methodLink RX3 56 yX3_headPlace, Cond.instanceMethod yX3_headPlace, Cond.selects RX3 yX3_headPlace yX3_headPlace, Cond.code yX3_headPlace cX3_headPlace 1 (some .int), Cond.methodLink RX3 27 yX3_get, Cond.instanceMethod yX3_get, Cond.selects RX3 yX3_get yX3_get, Cond.code yX3_get cX3_get 2 (some .int), Cond.methodLink RX4 44 yX3_headVersion, Cond.static yX5_isBelow, Cond.code yX5_isBelow cX5_isBelow 2 (some .boolean), Cond.constantLong RX5 193 (4294967295), Cond.methodLink RX5 211 yX1_fill, Cond.instanceMethod yX1_fill, Cond.selects RX1 yX1_fill yX1_fill, Cond.code yX1_fill cX1_fill 7 none, Cond.methodLink RX1 36 Lib.Math.min.name, Cond.static Lib.Math.min.name, Cond.initialized "java/lang/Math", Cond.code Lib.Math.min.name Lib.Math.min.code 2 (some .int), Cond.methodLink RX1 42 yX1_firstBeginFrom, Cond.instanceMethod yX1_firstBeginFrom, Cond.selects RX1 yX1_firstBeginFrom yX1_firstBeginFrom, Cond.code yX1_firstBeginFrom cX1_firstBeginFrom 4 (some .int)]
def wsX5_append_r5 : List Cond := [Cond.methodLink RX1 33 yX1_behindRecordAt, Cond.instanceMethod yX1_behindRecordAt, Cond.selects RX1 yX1_behindRecordAt yX1_behindRecordAt, Cond.code yX1_behindRecordAt cX1_behindRecordAt 2 (some .int), Cond.methodLink RX1 29 yX1_get, Cond.instanceMethod yX1_get, Cond.selects RX1 yX1_get yX1_get, Cond.code yX1_get cX1_get 2 (some .int), Cond.methodLink RX1 45 yX3_clear, Cond.instanceMethod yX3_clear, Cond.selects RX3 yX3_clear yX3_clear, Cond.code yX3_clear cX3_clear 2 none, Cond.methodLink RX1 50 yX3_set, Cond.instanceMethod yX3_set, Cond.selects RX3 yX3_set yX3_set, Cond.code yX3_set cX3_set 3 none, Cond.methodLink RX5 215 yX3_sealLog, Cond.instanceMethod yX3_sealLog, Cond.selects RX3 yX3_sealLog yX3_sealLog, Cond.code yX3_sealLog cX3_sealLog 3 none, Cond.methodLink RX3 39 yX3_setNumber, Cond.instanceMethod yX3_setNumber, Cond.selects RX3 yX3_setNumber yX3_setNumber, Cond.code yX3_setNumber cX3_setNumber 3 none]
def wsX5_append_r6 : List Cond := [Cond.methodLink RX3 19 yX3_set, Cond.methodLink RX3 59 yX3_logSum, Cond.instanceMethod yX3_logSum, Cond.selects RX3 yX3_logSum yX3_logSum, Cond.code yX3_logSum cX3_logSum 1 (some .int), Cond.methodLink RX5 208 yX5_writeDraft, Cond.instanceMethod yX5_writeDraft, Cond.selects RX5 yX5_writeDraft yX5_writeDraft, Cond.code yX5_writeDraft cX5_writeDraft 3 (some .boolean), Cond.methodLink RX5 204 yX4_write, Cond.instanceMethod yX4_write, Cond.selects RX4 yX4_write yX4_write, Cond.code yX4_write cX4_write 3 (some .boolean), Cond.fieldLink RX4 22 "GroupLog$Store" "stepsLeft" "I", Cond.fieldLink RX4 25 "GroupLog$Store" "part" "I", Cond.fieldLink RX4 18 "GroupLog$Store" "steps" "I", Cond.methodLink RX4 32 yX3_takePart, Cond.instanceMethod yX3_takePart, Cond.selects RX3 yX3_takePart yX3_takePart, Cond.code yX3_takePart cX3_takePart 3 none, Cond.methodLink RX3 23 yX3_takeBytes, Cond.instanceMethod yX3_takeBytes, Cond.selects RX3 yX3_takeBytes yX3_takeBytes, Cond.code yX3_takeBytes cX3_takeBytes 4 none]
def wsX5_append_r7 : List Cond := [Cond.methodLink RX4 36 yX3_takeWhole, Cond.instanceMethod yX3_takeWhole, Cond.selects RX3 yX3_takeWhole yX3_takeWhole, Cond.code yX3_takeWhole cX3_takeWhole 2 none, Cond.methodLink RX5 128 yX5_powerGoes, Cond.instanceMethod yX5_powerGoes, Cond.selects RX5 yX5_powerGoes yX5_powerGoes, Cond.code yX5_powerGoes cX5_powerGoes 1 none, Cond.methodLink RX5 201 yX1_empty, Cond.instanceMethod yX1_empty, Cond.selects RX1 yX1_empty yX1_empty, Cond.code yX1_empty cX1_empty 1 none, Cond.fieldLink RX1 22 "GroupLog$Queue" "waited" "I", Cond.methodLink RX5 218 yX0_advance, Cond.instanceMethod yX0_advance, Cond.selects RX0 yX0_advance yX0_advance, Cond.initialized RX0, Cond.code yX0_advance cX0_advance 2 none, Cond.fieldLink RX0 32 "GroupLog$Log" "used" "I", Cond.fieldLink RX0 35 "GroupLog$Log" "nextPlace" "I", Cond.fieldLink RX0 38 "GroupLog$Log" "nextSerial" "I", Cond.static yX5_placeBehind, Cond.code yX5_placeBehind cX5_placeBehind 2 (some .int), Cond.methodLink RX5 195 yJ9_floorMod_7cf53]
def wsX5_append_r8 : List Cond := [Cond.static yJ9_floorMod_7cf53, Cond.initialized RJ9, Cond.code yJ9_floorMod_7cf53 cJ9_floorMod_7cf53 3 (some .int), Cond.methodLink RX5 222 yX1_tellTo, Cond.instanceMethod yX1_tellTo, Cond.selects RX1 yX1_tellTo yX1_tellTo, Cond.code yX1_tellTo cX1_tellTo 5 none, Cond.methodLink RX1 57 yX0_addSafe, Cond.instanceMethod yX0_addSafe, Cond.selects RX0 yX0_addSafe yX0_addSafe, Cond.code yX0_addSafe cX0_addSafe 3 none, Cond.fieldLink RX0 26 "GroupLog$Log" "lastSafe" "I", Cond.fieldLink RX0 9 "GroupLog$Log" "begins" "[I", Cond.methodLink RX0 45 yX0_slotOf, Cond.static yX0_slotOf, Cond.code yX0_slotOf cX0_slotOf 1 (some .int)]
def wsX5_append : List Cond := .code yX5_append cX5_append 2 (some .int) :: ((wsX5_append_r1 ++ (wsX5_append_r2 ++ (wsX5_append_r3 ++ (wsX5_append_r4 ++ (wsX5_append_r5 ++ (wsX5_append_r6 ++ (wsX5_append_r7 ++ wsX5_append_r8))))))) ++ wsX50 ++ wsX00 ++ wsX10 ++ wsX40 ++ wsX30)
def wsX5_flush_r1 : List Cond := [Cond.fieldLink RX5 58 "GroupLog" "on" "Z", Cond.methodLink RX5 98 yX5_writeQueue, Cond.instanceMethod yX5_writeQueue, Cond.selects RX5 yX5_writeQueue yX5_writeQueue, Cond.initialized RX5, Cond.code yX5_writeQueue cX5_writeQueue 6 (some .int), Cond.fieldLink RX5 26 "GroupLog" "log" "LGroupLog$Log;", Cond.fieldLink RX5 19 "GroupLog" "queue" "LGroupLog$Queue;", Cond.fieldLink RX5 12 "GroupLog" "store" "LGroupLog$Store;", Cond.fieldLink RX5 40 "GroupLog" "draft" "LGroupLog$Sector;", Cond.fieldLink RX5 55 "GroupLog" "flushes" "I", Cond.methodLink RX5 78 yX1_sectorsWith, Cond.instanceMethod yX1_sectorsWith, Cond.selects RX1 yX1_sectorsWith yX1_sectorsWith, Cond.initialized RX1, Cond.code yX1_sectorsWith cX1_sectorsWith 2 (some .int), Cond.fieldLink RX1 15 "GroupLog$Queue" "length" "I", Cond.methodLink RX5 190 yX4_headVersion, Cond.instanceMethod yX4_headVersion, Cond.selects RX4 yX4_headVersion yX4_headVersion, Cond.initialized RX4, Cond.code yX4_headVersion cX4_headVersion 2 (some .int), Cond.methodLink RX4 52 yX4_latestHead, Cond.instanceMethod yX4_latestHead]
def wsX5_flush_r2 : List Cond := [Cond.selects RX4 yX4_latestHead yX4_latestHead, Cond.code yX4_latestHead cX4_latestHead 3 (some .int), Cond.methodLink RX4 28 yX4_sector, Cond.instanceMethod yX4_sector, Cond.selects RX4 yX4_sector yX4_sector, Cond.code yX4_sector cX4_sector 2 (some (.object "GroupLog$Sector")), Cond.fieldLink RX4 11 "GroupLog$Store" "sectors" "[LGroupLog$Sector;", Cond.methodLink RX4 40 yX3_isGoodHead, Cond.instanceMethod yX3_isGoodHead, Cond.selects RX3 yX3_isGoodHead yX3_isGoodHead, Cond.initialized RX3, Cond.code yX3_isGoodHead cX3_isGoodHead 1 (some .boolean), Cond.fieldLink RX3 15 "GroupLog$Sector" "isTorn" "Z", Cond.constant RX3 55 (1000000000), Cond.methodLink RX3 46 yX3_number, Cond.instanceMethod yX3_number, Cond.selects RX3 yX3_number yX3_number, Cond.code yX3_number cX3_number 2 (some .int), Cond.fieldLink RX3 9 "GroupLog$Sector" "bytes" "[I", Cond.methodLink RX3 42 yX3_headSum, Cond.instanceMethod yX3_headSum, Cond.selects RX3 yX3_headSum yX3_headSum, Cond.code yX3_headSum cX3_headSum 1 (some .int), Cond.methodLink RX3 32 yX3_sumOver]
def wsX5_flush_r3 : List Cond := [Cond.instanceMethod yX3_sumOver, Cond.selects RX3 yX3_sumOver yX3_sumOver, Cond.code yX3_sumOver cX3_sumOver 7 (some .int), Cond.constant RX3 31 (-306674912), Cond.methodLink RX3 49 yX3_headVersion, Cond.instanceMethod yX3_headVersion, Cond.selects RX3 yX3_headVersion yX3_headVersion, Cond.code yX3_headVersion cX3_headVersion 1 (some .int), Cond.methodLink RX3 52 yX3_headRecord, Cond.instanceMethod yX3_headRecord, Cond.selects RX3 yX3_headRecord yX3_headRecord, Cond.code yX3_headRecord cX3_headRecord 1 (some .int), Cond.methodLink RX3 56 yX3_headPlace, Cond.instanceMethod yX3_headPlace, Cond.selects RX3 yX3_headPlace yX3_headPlace, Cond.code yX3_headPlace cX3_headPlace 1 (some .int), Cond.methodLink RX3 27 yX3_get, Cond.instanceMethod yX3_get, Cond.selects RX3 yX3_get yX3_get, Cond.code yX3_get cX3_get 2 (some .int), Cond.methodLink RX4 44 yX3_headVersion, Cond.static yX5_isBelow, Cond.code yX5_isBelow cX5_isBelow 2 (some .boolean), Cond.constantLong RX5 193 (4294967295)]
def wsX5_flush_r4 : List Cond := [Cond.methodLink RX5 211 yX1_fill, Cond.instanceMethod yX1_fill, Cond.selects RX1 yX1_fill yX1_fill, Cond.code yX1_fill cX1_fill 7 none, Cond.methodLink RX1 36 Lib.Math.min.name, Cond.static Lib.Math.min.name, Cond.initialized "java/lang/Math", Cond.code Lib.Math.min.name Lib.Math.min.code 2 (some .int), Cond.methodLink RX1 42 yX1_firstBeginFrom, Cond.instanceMethod yX1_firstBeginFrom, Cond.selects RX1 yX1_firstBeginFrom yX1_firstBeginFrom, Cond.code yX1_firstBeginFrom cX1_firstBeginFrom 4 (some .int), Cond.fieldLink RX1 19 "GroupLog$Queue" "records" "I", Cond.methodLink RX1 33 yX1_behindRecordAt, Cond.instanceMethod yX1_behindRecordAt, Cond.selects RX1 yX1_behindRecordAt yX1_behindRecordAt, Cond.code yX1_behindRecordAt cX1_behindRecordAt 2 (some .int), Cond.methodLink RX1 29 yX1_get, Cond.instanceMethod yX1_get, Cond.selects RX1 yX1_get yX1_get, Cond.code yX1_get cX1_get 2 (some .int), Cond.fieldLink RX1 9 "GroupLog$Queue" "bytes" "[I", Cond.methodLink RX1 45 yX3_clear, Cond.instanceMethod yX3_clear]
def wsX5_flush_r5 : List Cond := [Cond.selects RX3 yX3_clear yX3_clear, Cond.code yX3_clear cX3_clear 2 none, Cond.methodLink RX1 50 yX3_set, Cond.instanceMethod yX3_set, Cond.selects RX3 yX3_set yX3_set, Cond.code yX3_set cX3_set 3 none, Cond.methodLink RX5 215 yX3_sealLog, Cond.instanceMethod yX3_sealLog, Cond.selects RX3 yX3_sealLog yX3_sealLog, Cond.code yX3_sealLog cX3_sealLog 3 none, Cond.methodLink RX3 39 yX3_setNumber, Cond.instanceMethod yX3_setNumber, Cond.selects RX3 yX3_setNumber yX3_setNumber, Cond.code yX3_setNumber cX3_setNumber 3 none, Cond.methodLink RX3 19 yX3_set, Cond.methodLink RX3 59 yX3_logSum, Cond.instanceMethod yX3_logSum, Cond.selects RX3 yX3_logSum yX3_logSum, Cond.code yX3_logSum cX3_logSum 1 (some .int), Cond.methodLink RX5 208 yX5_writeDraft, Cond.instanceMethod yX5_writeDraft, Cond.selects RX5 yX5_writeDraft yX5_writeDraft, Cond.code yX5_writeDraft cX5_writeDraft 3 (some .boolean), Cond.methodLink RX5 204 yX4_write]
def wsX5_flush_r6 : List Cond := [Cond.instanceMethod yX4_write, Cond.selects RX4 yX4_write yX4_write, Cond.code yX4_write cX4_write 3 (some .boolean), Cond.fieldLink RX4 22 "GroupLog$Store" "stepsLeft" "I", Cond.fieldLink RX4 25 "GroupLog$Store" "part" "I", Cond.fieldLink RX4 18 "GroupLog$Store" "steps" "I", Cond.methodLink RX4 32 yX3_takePart, Cond.instanceMethod yX3_takePart, Cond.selects RX3 yX3_takePart yX3_takePart, Cond.code yX3_takePart cX3_takePart 3 none, Cond.methodLink RX3 23 yX3_takeBytes, Cond.instanceMethod yX3_takeBytes, Cond.selects RX3 yX3_takeBytes yX3_takeBytes, Cond.code yX3_takeBytes cX3_takeBytes 4 none, Cond.methodLink RX4 36 yX3_takeWhole, Cond.instanceMethod yX3_takeWhole, Cond.selects RX3 yX3_takeWhole yX3_takeWhole, Cond.code yX3_takeWhole cX3_takeWhole 2 none, Cond.methodLink RX5 128 yX5_powerGoes, Cond.instanceMethod yX5_powerGoes, Cond.selects RX5 yX5_powerGoes yX5_powerGoes, Cond.code yX5_powerGoes cX5_powerGoes 1 none, Cond.methodLink RX5 201 yX1_empty, Cond.instanceMethod yX1_empty]
def wsX5_flush_r7 : List Cond := [Cond.selects RX1 yX1_empty yX1_empty, Cond.code yX1_empty cX1_empty 1 none, Cond.fieldLink RX1 22 "GroupLog$Queue" "waited" "I", Cond.methodLink RX5 218 yX0_advance, Cond.instanceMethod yX0_advance, Cond.selects RX0 yX0_advance yX0_advance, Cond.initialized RX0, Cond.code yX0_advance cX0_advance 2 none, Cond.fieldLink RX0 32 "GroupLog$Log" "used" "I", Cond.fieldLink RX0 35 "GroupLog$Log" "nextPlace" "I", Cond.fieldLink RX0 38 "GroupLog$Log" "nextSerial" "I", Cond.static yX5_placeBehind, Cond.code yX5_placeBehind cX5_placeBehind 2 (some .int), Cond.methodLink RX5 195 yJ9_floorMod_7cf53, Cond.static yJ9_floorMod_7cf53, Cond.initialized RJ9, Cond.code yJ9_floorMod_7cf53 cJ9_floorMod_7cf53 3 (some .int), Cond.methodLink RX5 222 yX1_tellTo, Cond.instanceMethod yX1_tellTo, Cond.selects RX1 yX1_tellTo yX1_tellTo, Cond.code yX1_tellTo cX1_tellTo 5 none, Cond.methodLink RX1 57 yX0_addSafe, Cond.instanceMethod yX0_addSafe, Cond.selects RX0 yX0_addSafe yX0_addSafe]
def wsX5_flush_r8 : List Cond := [Cond.code yX0_addSafe cX0_addSafe 3 none, Cond.fieldLink RX0 26 "GroupLog$Log" "lastSafe" "I", Cond.fieldLink RX0 9 "GroupLog$Log" "begins" "[I", Cond.methodLink RX0 45 yX0_slotOf, Cond.static yX0_slotOf, Cond.code yX0_slotOf cX0_slotOf 1 (some .int)]
def wsX5_flush : List Cond := .code yX5_flush cX5_flush 1 (some .int) :: ((wsX5_flush_r1 ++ (wsX5_flush_r2 ++ (wsX5_flush_r3 ++ (wsX5_flush_r4 ++ (wsX5_flush_r5 ++ (wsX5_flush_r6 ++ (wsX5_flush_r7 ++ wsX5_flush_r8))))))) ++ wsX50 ++ wsX00 ++ wsX10 ++ wsX40 ++ wsX30)
def wsX5_tick_r1 : List Cond := [Cond.fieldLink RX5 58 "GroupLog" "on" "Z", Cond.fieldLink RX5 19 "GroupLog" "queue" "LGroupLog$Queue;", Cond.fieldLink RX5 52 "GroupLog" "delayTicks" "I", Cond.methodLink RX5 74 yX5_isTicks, Cond.static yX5_isTicks, Cond.initialized RX5, Cond.code yX5_isTicks cX5_isTicks 1 (some .boolean), Cond.methodLink RX5 98 yX5_writeQueue, Cond.instanceMethod yX5_writeQueue, Cond.selects RX5 yX5_writeQueue yX5_writeQueue, Cond.code yX5_writeQueue cX5_writeQueue 6 (some .int), Cond.fieldLink RX5 26 "GroupLog" "log" "LGroupLog$Log;", Cond.fieldLink RX5 12 "GroupLog" "store" "LGroupLog$Store;", Cond.fieldLink RX5 40 "GroupLog" "draft" "LGroupLog$Sector;", Cond.fieldLink RX5 55 "GroupLog" "flushes" "I", Cond.methodLink RX5 78 yX1_sectorsWith, Cond.instanceMethod yX1_sectorsWith, Cond.selects RX1 yX1_sectorsWith yX1_sectorsWith, Cond.initialized RX1, Cond.code yX1_sectorsWith cX1_sectorsWith 2 (some .int), Cond.fieldLink RX1 15 "GroupLog$Queue" "length" "I", Cond.methodLink RX5 190 yX4_headVersion, Cond.instanceMethod yX4_headVersion, Cond.selects RX4 yX4_headVersion yX4_headVersion]
def wsX5_tick_r2 : List Cond := [Cond.initialized RX4, Cond.code yX4_headVersion cX4_headVersion 2 (some .int), Cond.methodLink RX4 52 yX4_latestHead, Cond.instanceMethod yX4_latestHead, Cond.selects RX4 yX4_latestHead yX4_latestHead, Cond.code yX4_latestHead cX4_latestHead 3 (some .int), Cond.methodLink RX4 28 yX4_sector, Cond.instanceMethod yX4_sector, Cond.selects RX4 yX4_sector yX4_sector, Cond.code yX4_sector cX4_sector 2 (some (.object "GroupLog$Sector")), Cond.fieldLink RX4 11 "GroupLog$Store" "sectors" "[LGroupLog$Sector;", Cond.methodLink RX4 40 yX3_isGoodHead, Cond.instanceMethod yX3_isGoodHead, Cond.selects RX3 yX3_isGoodHead yX3_isGoodHead, Cond.initialized RX3, Cond.code yX3_isGoodHead cX3_isGoodHead 1 (some .boolean), Cond.fieldLink RX3 15 "GroupLog$Sector" "isTorn" "Z", Cond.constant RX3 55 (1000000000), Cond.methodLink RX3 46 yX3_number, Cond.instanceMethod yX3_number, Cond.selects RX3 yX3_number yX3_number, Cond.code yX3_number cX3_number 2 (some .int), Cond.fieldLink RX3 9 "GroupLog$Sector" "bytes" "[I", Cond.methodLink RX3 42 yX3_headSum]
def wsX5_tick_r3 : List Cond := [Cond.instanceMethod yX3_headSum, Cond.selects RX3 yX3_headSum yX3_headSum, Cond.code yX3_headSum cX3_headSum 1 (some .int), Cond.methodLink RX3 32 yX3_sumOver, Cond.instanceMethod yX3_sumOver, Cond.selects RX3 yX3_sumOver yX3_sumOver, Cond.code yX3_sumOver cX3_sumOver 7 (some .int), Cond.constant RX3 31 (-306674912), Cond.methodLink RX3 49 yX3_headVersion, Cond.instanceMethod yX3_headVersion, Cond.selects RX3 yX3_headVersion yX3_headVersion, Cond.code yX3_headVersion cX3_headVersion 1 (some .int), Cond.methodLink RX3 52 yX3_headRecord, Cond.instanceMethod yX3_headRecord, Cond.selects RX3 yX3_headRecord yX3_headRecord, Cond.code yX3_headRecord cX3_headRecord 1 (some .int), Cond.methodLink RX3 56 yX3_headPlace, Cond.instanceMethod yX3_headPlace, Cond.selects RX3 yX3_headPlace yX3_headPlace, Cond.code yX3_headPlace cX3_headPlace 1 (some .int), Cond.methodLink RX3 27 yX3_get, Cond.instanceMethod yX3_get, Cond.selects RX3 yX3_get yX3_get, Cond.code yX3_get cX3_get 2 (some .int)]
def wsX5_tick_r4 : List Cond := [Cond.methodLink RX4 44 yX3_headVersion, Cond.static yX5_isBelow, Cond.code yX5_isBelow cX5_isBelow 2 (some .boolean), Cond.constantLong RX5 193 (4294967295), Cond.methodLink RX5 211 yX1_fill, Cond.instanceMethod yX1_fill, Cond.selects RX1 yX1_fill yX1_fill, Cond.code yX1_fill cX1_fill 7 none, Cond.methodLink RX1 36 Lib.Math.min.name, Cond.static Lib.Math.min.name, Cond.initialized "java/lang/Math", Cond.code Lib.Math.min.name Lib.Math.min.code 2 (some .int), Cond.methodLink RX1 42 yX1_firstBeginFrom, Cond.instanceMethod yX1_firstBeginFrom, Cond.selects RX1 yX1_firstBeginFrom yX1_firstBeginFrom, Cond.code yX1_firstBeginFrom cX1_firstBeginFrom 4 (some .int), Cond.fieldLink RX1 19 "GroupLog$Queue" "records" "I", Cond.methodLink RX1 33 yX1_behindRecordAt, Cond.instanceMethod yX1_behindRecordAt, Cond.selects RX1 yX1_behindRecordAt yX1_behindRecordAt, Cond.code yX1_behindRecordAt cX1_behindRecordAt 2 (some .int), Cond.methodLink RX1 29 yX1_get, Cond.instanceMethod yX1_get, Cond.selects RX1 yX1_get yX1_get]
def wsX5_tick_r5 : List Cond := [Cond.code yX1_get cX1_get 2 (some .int), Cond.fieldLink RX1 9 "GroupLog$Queue" "bytes" "[I", Cond.methodLink RX1 45 yX3_clear, Cond.instanceMethod yX3_clear, Cond.selects RX3 yX3_clear yX3_clear, Cond.code yX3_clear cX3_clear 2 none, Cond.methodLink RX1 50 yX3_set, Cond.instanceMethod yX3_set, Cond.selects RX3 yX3_set yX3_set, Cond.code yX3_set cX3_set 3 none, Cond.methodLink RX5 215 yX3_sealLog, Cond.instanceMethod yX3_sealLog, Cond.selects RX3 yX3_sealLog yX3_sealLog, Cond.code yX3_sealLog cX3_sealLog 3 none, Cond.methodLink RX3 39 yX3_setNumber, Cond.instanceMethod yX3_setNumber, Cond.selects RX3 yX3_setNumber yX3_setNumber, Cond.code yX3_setNumber cX3_setNumber 3 none, Cond.methodLink RX3 19 yX3_set, Cond.methodLink RX3 59 yX3_logSum, Cond.instanceMethod yX3_logSum, Cond.selects RX3 yX3_logSum yX3_logSum, Cond.code yX3_logSum cX3_logSum 1 (some .int), Cond.methodLink RX5 208 yX5_writeDraft]
def wsX5_tick_r6 : List Cond := [Cond.instanceMethod yX5_writeDraft, Cond.selects RX5 yX5_writeDraft yX5_writeDraft, Cond.code yX5_writeDraft cX5_writeDraft 3 (some .boolean), Cond.methodLink RX5 204 yX4_write, Cond.instanceMethod yX4_write, Cond.selects RX4 yX4_write yX4_write, Cond.code yX4_write cX4_write 3 (some .boolean), Cond.fieldLink RX4 22 "GroupLog$Store" "stepsLeft" "I", Cond.fieldLink RX4 25 "GroupLog$Store" "part" "I", Cond.fieldLink RX4 18 "GroupLog$Store" "steps" "I", Cond.methodLink RX4 32 yX3_takePart, Cond.instanceMethod yX3_takePart, Cond.selects RX3 yX3_takePart yX3_takePart, Cond.code yX3_takePart cX3_takePart 3 none, Cond.methodLink RX3 23 yX3_takeBytes, Cond.instanceMethod yX3_takeBytes, Cond.selects RX3 yX3_takeBytes yX3_takeBytes, Cond.code yX3_takeBytes cX3_takeBytes 4 none, Cond.methodLink RX4 36 yX3_takeWhole, Cond.instanceMethod yX3_takeWhole, Cond.selects RX3 yX3_takeWhole yX3_takeWhole, Cond.code yX3_takeWhole cX3_takeWhole 2 none, Cond.methodLink RX5 128 yX5_powerGoes, Cond.instanceMethod yX5_powerGoes]
def wsX5_tick_r7 : List Cond := [Cond.selects RX5 yX5_powerGoes yX5_powerGoes, Cond.code yX5_powerGoes cX5_powerGoes 1 none, Cond.methodLink RX5 201 yX1_empty, Cond.instanceMethod yX1_empty, Cond.selects RX1 yX1_empty yX1_empty, Cond.code yX1_empty cX1_empty 1 none, Cond.fieldLink RX1 22 "GroupLog$Queue" "waited" "I", Cond.methodLink RX5 218 yX0_advance, Cond.instanceMethod yX0_advance, Cond.selects RX0 yX0_advance yX0_advance, Cond.initialized RX0, Cond.code yX0_advance cX0_advance 2 none, Cond.fieldLink RX0 32 "GroupLog$Log" "used" "I", Cond.fieldLink RX0 35 "GroupLog$Log" "nextPlace" "I", Cond.fieldLink RX0 38 "GroupLog$Log" "nextSerial" "I", Cond.static yX5_placeBehind, Cond.code yX5_placeBehind cX5_placeBehind 2 (some .int), Cond.methodLink RX5 195 yJ9_floorMod_7cf53, Cond.static yJ9_floorMod_7cf53, Cond.initialized RJ9, Cond.code yJ9_floorMod_7cf53 cJ9_floorMod_7cf53 3 (some .int), Cond.methodLink RX5 222 yX1_tellTo, Cond.instanceMethod yX1_tellTo, Cond.selects RX1 yX1_tellTo yX1_tellTo]
def wsX5_tick_r8 : List Cond := [Cond.code yX1_tellTo cX1_tellTo 5 none, Cond.methodLink RX1 57 yX0_addSafe, Cond.instanceMethod yX0_addSafe, Cond.selects RX0 yX0_addSafe yX0_addSafe, Cond.code yX0_addSafe cX0_addSafe 3 none, Cond.fieldLink RX0 26 "GroupLog$Log" "lastSafe" "I", Cond.fieldLink RX0 9 "GroupLog$Log" "begins" "[I", Cond.methodLink RX0 45 yX0_slotOf, Cond.static yX0_slotOf, Cond.code yX0_slotOf cX0_slotOf 1 (some .int)]
def wsX5_tick : List Cond := .code yX5_tick cX5_tick 2 (some .int) :: ((wsX5_tick_r1 ++ (wsX5_tick_r2 ++ (wsX5_tick_r3 ++ (wsX5_tick_r4 ++ (wsX5_tick_r5 ++ (wsX5_tick_r6 ++ (wsX5_tick_r7 ++ wsX5_tick_r8))))))) ++ wsX50 ++ wsX10 ++ wsX00 ++ wsX40 ++ wsX30)
def wsX5_writeHead_r1 : List Cond := [Cond.fieldLink RX5 12 "GroupLog" "store" "LGroupLog$Store;", Cond.fieldLink RX5 40 "GroupLog" "draft" "LGroupLog$Sector;", Cond.methodLink RX5 190 yX4_headVersion, Cond.instanceMethod yX4_headVersion, Cond.selects RX4 yX4_headVersion yX4_headVersion, Cond.initialized RX4, Cond.code yX4_headVersion cX4_headVersion 2 (some .int), Cond.methodLink RX4 52 yX4_latestHead, Cond.instanceMethod yX4_latestHead, Cond.selects RX4 yX4_latestHead yX4_latestHead, Cond.code yX4_latestHead cX4_latestHead 3 (some .int), Cond.methodLink RX4 28 yX4_sector, Cond.instanceMethod yX4_sector, Cond.selects RX4 yX4_sector yX4_sector, Cond.code yX4_sector cX4_sector 2 (some (.object "GroupLog$Sector")), Cond.fieldLink RX4 11 "GroupLog$Store" "sectors" "[LGroupLog$Sector;", Cond.methodLink RX4 40 yX3_isGoodHead, Cond.instanceMethod yX3_isGoodHead, Cond.selects RX3 yX3_isGoodHead yX3_isGoodHead, Cond.initialized RX3, Cond.code yX3_isGoodHead cX3_isGoodHead 1 (some .boolean), Cond.fieldLink RX3 15 "GroupLog$Sector" "isTorn" "Z", Cond.constant RX3 55 (1000000000), Cond.methodLink RX3 46 yX3_number]
def wsX5_writeHead_r2 : List Cond := [Cond.instanceMethod yX3_number, Cond.selects RX3 yX3_number yX3_number, Cond.code yX3_number cX3_number 2 (some .int), Cond.fieldLink RX3 9 "GroupLog$Sector" "bytes" "[I", Cond.methodLink RX3 42 yX3_headSum, Cond.instanceMethod yX3_headSum, Cond.selects RX3 yX3_headSum yX3_headSum, Cond.code yX3_headSum cX3_headSum 1 (some .int), Cond.methodLink RX3 32 yX3_sumOver, Cond.instanceMethod yX3_sumOver, Cond.selects RX3 yX3_sumOver yX3_sumOver, Cond.code yX3_sumOver cX3_sumOver 7 (some .int), Cond.constant RX3 31 (-306674912), Cond.methodLink RX3 49 yX3_headVersion, Cond.instanceMethod yX3_headVersion, Cond.selects RX3 yX3_headVersion yX3_headVersion, Cond.code yX3_headVersion cX3_headVersion 1 (some .int), Cond.methodLink RX3 52 yX3_headRecord, Cond.instanceMethod yX3_headRecord, Cond.selects RX3 yX3_headRecord yX3_headRecord, Cond.code yX3_headRecord cX3_headRecord 1 (some .int), Cond.methodLink RX3 56 yX3_headPlace, Cond.instanceMethod yX3_headPlace, Cond.selects RX3 yX3_headPlace yX3_headPlace]
def wsX5_writeHead_r3 : List Cond := [Cond.code yX3_headPlace cX3_headPlace 1 (some .int), Cond.methodLink RX3 27 yX3_get, Cond.instanceMethod yX3_get, Cond.selects RX3 yX3_get yX3_get, Cond.code yX3_get cX3_get 2 (some .int), Cond.methodLink RX4 44 yX3_headVersion, Cond.static yX5_isBelow, Cond.initialized RX5, Cond.code yX5_isBelow cX5_isBelow 2 (some .boolean), Cond.constantLong RX5 193 (4294967295), Cond.methodLink RX5 137 yX4_latestHead, Cond.methodLink RX5 66 yX3_makeHead, Cond.instanceMethod yX3_makeHead, Cond.selects RX3 yX3_makeHead yX3_makeHead, Cond.code yX3_makeHead cX3_makeHead 5 none, Cond.methodLink RX3 36 yX3_clear, Cond.instanceMethod yX3_clear, Cond.selects RX3 yX3_clear yX3_clear, Cond.code yX3_clear cX3_clear 2 none, Cond.methodLink RX3 39 yX3_setNumber, Cond.instanceMethod yX3_setNumber, Cond.selects RX3 yX3_setNumber yX3_setNumber, Cond.code yX3_setNumber cX3_setNumber 3 none, Cond.methodLink RX3 19 yX3_set]
def wsX5_writeHead_r4 : List Cond := [Cond.instanceMethod yX3_set, Cond.selects RX3 yX3_set yX3_set, Cond.code yX3_set cX3_set 3 none, Cond.methodLink RX5 208 yX5_writeDraft, Cond.instanceMethod yX5_writeDraft, Cond.selects RX5 yX5_writeDraft yX5_writeDraft, Cond.code yX5_writeDraft cX5_writeDraft 3 (some .boolean), Cond.methodLink RX5 204 yX4_write, Cond.instanceMethod yX4_write, Cond.selects RX4 yX4_write yX4_write, Cond.code yX4_write cX4_write 3 (some .boolean), Cond.fieldLink RX4 22 "GroupLog$Store" "stepsLeft" "I", Cond.fieldLink RX4 25 "GroupLog$Store" "part" "I", Cond.fieldLink RX4 18 "GroupLog$Store" "steps" "I", Cond.methodLink RX4 32 yX3_takePart, Cond.instanceMethod yX3_takePart, Cond.selects RX3 yX3_takePart yX3_takePart, Cond.code yX3_takePart cX3_takePart 3 none, Cond.methodLink RX3 23 yX3_takeBytes, Cond.instanceMethod yX3_takeBytes, Cond.selects RX3 yX3_takeBytes yX3_takeBytes, Cond.code yX3_takeBytes cX3_takeBytes 4 none, Cond.methodLink RX4 36 yX3_takeWhole, Cond.instanceMethod yX3_takeWhole]
def wsX5_writeHead_r5 : List Cond := [Cond.selects RX3 yX3_takeWhole yX3_takeWhole, Cond.code yX3_takeWhole cX3_takeWhole 2 none, Cond.methodLink RX5 128 yX5_powerGoes, Cond.instanceMethod yX5_powerGoes, Cond.selects RX5 yX5_powerGoes yX5_powerGoes, Cond.code yX5_powerGoes cX5_powerGoes 1 none, Cond.fieldLink RX5 58 "GroupLog" "on" "Z", Cond.fieldLink RX5 19 "GroupLog" "queue" "LGroupLog$Queue;", Cond.methodLink RX5 201 yX1_empty, Cond.instanceMethod yX1_empty, Cond.selects RX1 yX1_empty yX1_empty, Cond.initialized RX1, Cond.code yX1_empty cX1_empty 1 none, Cond.fieldLink RX1 15 "GroupLog$Queue" "length" "I", Cond.fieldLink RX1 19 "GroupLog$Queue" "records" "I", Cond.fieldLink RX1 22 "GroupLog$Queue" "waited" "I"]
def wsX5_writeHead : List Cond := .code yX5_writeHead cX5_writeHead 6 (some .boolean) :: ((wsX5_writeHead_r1 ++ (wsX5_writeHead_r2 ++ (wsX5_writeHead_r3 ++ (wsX5_writeHead_r4 ++ wsX5_writeHead_r5)))) ++ wsX50 ++ wsX40 ++ wsX30 ++ wsX10)
def wsX5_checkpoint_r1 : List Cond := [Cond.fieldLink RX5 58 "GroupLog" "on" "Z", Cond.fieldLink RX5 26 "GroupLog" "log" "LGroupLog$Log;", Cond.fieldLink RX5 12 "GroupLog" "store" "LGroupLog$Store;", Cond.methodLink RX5 108 yX0_placeOf, Cond.instanceMethod yX0_placeOf, Cond.selects RX0 yX0_placeOf yX0_placeOf, Cond.initialized RX0, Cond.code yX0_placeOf cX0_placeOf 2 (some .int), Cond.fieldLink RX0 26 "GroupLog$Log" "lastSafe" "I", Cond.fieldLink RX0 35 "GroupLog$Log" "nextPlace" "I", Cond.methodLink RX0 49 yX0_beginOf, Cond.instanceMethod yX0_beginOf, Cond.selects RX0 yX0_beginOf yX0_beginOf, Cond.code yX0_beginOf cX0_beginOf 2 (some .int), Cond.fieldLink RX0 9 "GroupLog$Log" "begins" "[I", Cond.methodLink RX0 45 yX0_slotOf, Cond.static yX0_slotOf, Cond.code yX0_slotOf cX0_slotOf 1 (some .int), Cond.methodLink RX5 111 yX0_firstBeginningWith, Cond.instanceMethod yX0_firstBeginningWith, Cond.selects RX0 yX0_firstBeginningWith yX0_firstBeginningWith, Cond.code yX0_firstBeginningWith cX0_firstBeginningWith 4 (some .int), Cond.methodLink RX0 52 yX0_has, Cond.instanceMethod yX0_has]
def wsX5_checkpoint_r2 : List Cond := [Cond.selects RX0 yX0_has yX0_has, Cond.code yX0_has cX0_has 2 (some .boolean), Cond.fieldLink RX0 19 "GroupLog$Log" "firstRecord" "I", Cond.methodLink RX0 56 yX0_placeOf, Cond.methodLink RX5 62 yX4_sector, Cond.instanceMethod yX4_sector, Cond.selects RX4 yX4_sector yX4_sector, Cond.initialized RX4, Cond.code yX4_sector cX4_sector 2 (some (.object "GroupLog$Sector")), Cond.fieldLink RX4 11 "GroupLog$Store" "sectors" "[LGroupLog$Sector;", Cond.methodLink RX5 117 yX3_serial, Cond.instanceMethod yX3_serial, Cond.selects RX3 yX3_serial yX3_serial, Cond.initialized RX3, Cond.code yX3_serial cX3_serial 1 (some .int), Cond.methodLink RX3 46 yX3_number, Cond.instanceMethod yX3_number, Cond.selects RX3 yX3_number yX3_number, Cond.code yX3_number cX3_number 2 (some .int), Cond.fieldLink RX3 9 "GroupLog$Sector" "bytes" "[I", Cond.methodLink RX5 120 yX5_writeHead, Cond.instanceMethod yX5_writeHead, Cond.selects RX5 yX5_writeHead yX5_writeHead, Cond.initialized RX5]
def wsX5_checkpoint_r3 : List Cond := [Cond.code yX5_writeHead cX5_writeHead 6 (some .boolean), Cond.fieldLink RX5 40 "GroupLog" "draft" "LGroupLog$Sector;", Cond.methodLink RX5 190 yX4_headVersion, Cond.instanceMethod yX4_headVersion, Cond.selects RX4 yX4_headVersion yX4_headVersion, Cond.code yX4_headVersion cX4_headVersion 2 (some .int), Cond.methodLink RX4 52 yX4_latestHead, Cond.instanceMethod yX4_latestHead, Cond.selects RX4 yX4_latestHead yX4_latestHead, Cond.code yX4_latestHead cX4_latestHead 3 (some .int), Cond.methodLink RX4 28 yX4_sector, Cond.methodLink RX4 40 yX3_isGoodHead, Cond.instanceMethod yX3_isGoodHead, Cond.selects RX3 yX3_isGoodHead yX3_isGoodHead, Cond.code yX3_isGoodHead cX3_isGoodHead 1 (some .boolean), Cond.fieldLink RX3 15 "GroupLog$Sector" "isTorn" "Z", Cond.constant RX3 55 (1000000000), Cond.methodLink RX3 42 yX3_headSum, Cond.instanceMethod yX3_headSum, Cond.selects RX3 yX3_headSum yX3_headSum, Cond.code yX3_headSum cX3_headSum 1 (some .int), Cond.methodLink RX3 32 yX3_sumOver, Cond.instanceMethod yX3_sumOver, Cond.selects RX3 yX3_sumOver yX3_sumOver]
def wsX5_checkpoint_r4 : List Cond := [Cond.code yX3_sumOver cX3_sumOver 7 (some .int), Cond.constant RX3 31 (-306674912), Cond.methodLink RX3 49 yX3_headVersion, Cond.instanceMethod yX3_headVersion, Cond.selects RX3 yX3_headVersion yX3_headVersion, Cond.code yX3_headVersion cX3_headVersion 1 (some .int), Cond.methodLink RX3 52 yX3_headRecord, Cond.instanceMethod yX3_headRecord, Cond.selects RX3 yX3_headRecord yX3_headRecord, Cond.code yX3_headRecord cX3_headRecord 1 (some .int), Cond.methodLink RX3 56 yX3_headPlace, Cond.instanceMethod yX3_headPlace, Cond.selects RX3 yX3_headPlace yX3_headPlace, Cond.code yX3_headPlace cX3_headPlace 1 (some .int), Cond.methodLink RX3 27 yX3_get, Cond.instanceMethod yX3_get, Cond.selects RX3 yX3_get yX3_get, Cond.code yX3_get cX3_get 2 (some .int), Cond.methodLink RX4 44 yX3_headVersion, Cond.static yX5_isBelow, Cond.code yX5_isBelow cX5_isBelow 2 (some .boolean), Cond.constantLong RX5 193 (4294967295), Cond.methodLink RX5 137 yX4_latestHead, Cond.methodLink RX5 66 yX3_makeHead]
def wsX5_checkpoint_r5 : List Cond := [Cond.instanceMethod yX3_makeHead, Cond.selects RX3 yX3_makeHead yX3_makeHead, Cond.code yX3_makeHead cX3_makeHead 5 none, Cond.methodLink RX3 36 yX3_clear, Cond.instanceMethod yX3_clear, Cond.selects RX3 yX3_clear yX3_clear, Cond.code yX3_clear cX3_clear 2 none, Cond.methodLink RX3 39 yX3_setNumber, Cond.instanceMethod yX3_setNumber, Cond.selects RX3 yX3_setNumber yX3_setNumber, Cond.code yX3_setNumber cX3_setNumber 3 none, Cond.methodLink RX3 19 yX3_set, Cond.instanceMethod yX3_set, Cond.selects RX3 yX3_set yX3_set, Cond.code yX3_set cX3_set 3 none, Cond.methodLink RX5 208 yX5_writeDraft, Cond.instanceMethod yX5_writeDraft, Cond.selects RX5 yX5_writeDraft yX5_writeDraft, Cond.code yX5_writeDraft cX5_writeDraft 3 (some .boolean), Cond.methodLink RX5 204 yX4_write, Cond.instanceMethod yX4_write, Cond.selects RX4 yX4_write yX4_write, Cond.code yX4_write cX4_write 3 (some .boolean), Cond.fieldLink RX4 22 "GroupLog$Store" "stepsLeft" "I"]
def wsX5_checkpoint_r6 : List Cond := [Cond.fieldLink RX4 25 "GroupLog$Store" "part" "I", Cond.fieldLink RX4 18 "GroupLog$Store" "steps" "I", Cond.methodLink RX4 32 yX3_takePart, Cond.instanceMethod yX3_takePart, Cond.selects RX3 yX3_takePart yX3_takePart, Cond.code yX3_takePart cX3_takePart 3 none, Cond.methodLink RX3 23 yX3_takeBytes, Cond.instanceMethod yX3_takeBytes, Cond.selects RX3 yX3_takeBytes yX3_takeBytes, Cond.code yX3_takeBytes cX3_takeBytes 4 none, Cond.methodLink RX4 36 yX3_takeWhole, Cond.instanceMethod yX3_takeWhole, Cond.selects RX3 yX3_takeWhole yX3_takeWhole, Cond.code yX3_takeWhole cX3_takeWhole 2 none, Cond.methodLink RX5 128 yX5_powerGoes, Cond.instanceMethod yX5_powerGoes, Cond.selects RX5 yX5_powerGoes yX5_powerGoes, Cond.code yX5_powerGoes cX5_powerGoes 1 none, Cond.fieldLink RX5 19 "GroupLog" "queue" "LGroupLog$Queue;", Cond.methodLink RX5 201 yX1_empty, Cond.instanceMethod yX1_empty, Cond.selects RX1 yX1_empty yX1_empty, Cond.initialized RX1, Cond.code yX1_empty cX1_empty 1 none]
def wsX5_checkpoint_r7 : List Cond := [Cond.fieldLink RX1 15 "GroupLog$Queue" "length" "I", Cond.fieldLink RX1 19 "GroupLog$Queue" "records" "I", Cond.fieldLink RX1 22 "GroupLog$Queue" "waited" "I", Cond.methodLink RX5 124 yX0_giveUpBefore, Cond.instanceMethod yX0_giveUpBefore, Cond.selects RX0 yX0_giveUpBefore yX0_giveUpBefore, Cond.code yX0_giveUpBefore cX0_giveUpBefore 5 (some .int), Cond.fieldLink RX0 32 "GroupLog$Log" "used" "I", Cond.fieldLink RX0 29 "GroupLog$Log" "firstPlace" "I", Cond.fieldLink RX0 23 "GroupLog$Log" "keptFrom" "I", Cond.methodLink RX0 59 yJ9_floorMod_7cf53, Cond.static yJ9_floorMod_7cf53, Cond.initialized RJ9, Cond.code yJ9_floorMod_7cf53 cJ9_floorMod_7cf53 3 (some .int)]
def wsX5_checkpoint : List Cond := .code yX5_checkpoint cX5_checkpoint 5 (some .int) :: ((wsX5_checkpoint_r1 ++ (wsX5_checkpoint_r2 ++ (wsX5_checkpoint_r3 ++ (wsX5_checkpoint_r4 ++ (wsX5_checkpoint_r5 ++ (wsX5_checkpoint_r6 ++ wsX5_checkpoint_r7)))))) ++ wsX50 ++ wsX00 ++ wsX40 ++ wsX30 ++ wsX10)
def wsX5_cut : List Cond := .code yX5_cut cX5_cut 1 (some .boolean) :: ([.fieldLink RX5 58 "GroupLog" "on" "Z", .methodLink RX5 128 yX5_powerGoes, .instanceMethod yX5_powerGoes, .selects RX5 yX5_powerGoes yX5_powerGoes, .initialized RX5, .code yX5_powerGoes cX5_powerGoes 1 none, .fieldLink RX5 19 "GroupLog" "queue" "LGroupLog$Queue;", .fieldLink RX5 12 "GroupLog" "store" "LGroupLog$Store;", .methodLink RX5 201 yX1_empty, .instanceMethod yX1_empty, .selects RX1 yX1_empty yX1_empty, .initialized RX1, .code yX1_empty cX1_empty 1 none, .fieldLink RX1 15 "GroupLog$Queue" "length" "I", .fieldLink RX1 19 "GroupLog$Queue" "records" "I", .fieldLink RX1 22 "GroupLog$Queue" "waited" "I"] ++ wsX50 ++ wsX40 ++ wsX10)
def wsX5_arm : List Cond := .code yX5_arm cX5_arm 3 (some .boolean) :: ([.fieldLink RX5 58 "GroupLog" "on" "Z", .fieldLink RX5 12 "GroupLog" "store" "LGroupLog$Store;"] ++ wsX50 ++ wsX40)
def wsX5_start_r1 : List Cond := [Cond.fieldLink RX5 58 "GroupLog" "on" "Z", Cond.fieldLink RX5 12 "GroupLog" "store" "LGroupLog$Store;", Cond.fieldLink RX5 26 "GroupLog" "log" "LGroupLog$Log;", Cond.fieldLink RX5 33 "GroupLog" "reader" "LGroupLog$Reader;", Cond.methodLink RX5 137 yX4_latestHead, Cond.instanceMethod yX4_latestHead, Cond.selects RX4 yX4_latestHead yX4_latestHead, Cond.initialized RX4, Cond.code yX4_latestHead cX4_latestHead 3 (some .int), Cond.methodLink RX4 28 yX4_sector, Cond.instanceMethod yX4_sector, Cond.selects RX4 yX4_sector yX4_sector, Cond.code yX4_sector cX4_sector 2 (some (.object "GroupLog$Sector")), Cond.fieldLink RX4 11 "GroupLog$Store" "sectors" "[LGroupLog$Sector;", Cond.methodLink RX4 40 yX3_isGoodHead, Cond.instanceMethod yX3_isGoodHead, Cond.selects RX3 yX3_isGoodHead yX3_isGoodHead, Cond.initialized RX3, Cond.code yX3_isGoodHead cX3_isGoodHead 1 (some .boolean), Cond.fieldLink RX3 15 "GroupLog$Sector" "isTorn" "Z", Cond.constant RX3 55 (1000000000), Cond.methodLink RX3 46 yX3_number, Cond.instanceMethod yX3_number, Cond.selects RX3 yX3_number yX3_number]
def wsX5_start_r2 : List Cond := [Cond.code yX3_number cX3_number 2 (some .int), Cond.fieldLink RX3 9 "GroupLog$Sector" "bytes" "[I", Cond.methodLink RX3 42 yX3_headSum, Cond.instanceMethod yX3_headSum, Cond.selects RX3 yX3_headSum yX3_headSum, Cond.code yX3_headSum cX3_headSum 1 (some .int), Cond.methodLink RX3 32 yX3_sumOver, Cond.instanceMethod yX3_sumOver, Cond.selects RX3 yX3_sumOver yX3_sumOver, Cond.code yX3_sumOver cX3_sumOver 7 (some .int), Cond.constant RX3 31 (-306674912), Cond.methodLink RX3 49 yX3_headVersion, Cond.instanceMethod yX3_headVersion, Cond.selects RX3 yX3_headVersion yX3_headVersion, Cond.code yX3_headVersion cX3_headVersion 1 (some .int), Cond.methodLink RX3 52 yX3_headRecord, Cond.instanceMethod yX3_headRecord, Cond.selects RX3 yX3_headRecord yX3_headRecord, Cond.code yX3_headRecord cX3_headRecord 1 (some .int), Cond.methodLink RX3 56 yX3_headPlace, Cond.instanceMethod yX3_headPlace, Cond.selects RX3 yX3_headPlace yX3_headPlace, Cond.code yX3_headPlace cX3_headPlace 1 (some .int), Cond.methodLink RX3 27 yX3_get]
def wsX5_start_r3 : List Cond := [Cond.instanceMethod yX3_get, Cond.selects RX3 yX3_get yX3_get, Cond.code yX3_get cX3_get 2 (some .int), Cond.methodLink RX4 44 yX3_headVersion, Cond.static yX5_isBelow, Cond.initialized RX5, Cond.code yX5_isBelow cX5_isBelow 2 (some .boolean), Cond.constantLong RX5 193 (4294967295), Cond.methodLink RX5 62 yX4_sector, Cond.methodLink RX5 140 yX3_headPlace, Cond.methodLink RX5 143 yX3_headSerial, Cond.instanceMethod yX3_headSerial, Cond.selects RX3 yX3_headSerial yX3_headSerial, Cond.code yX3_headSerial cX3_headSerial 1 (some .int), Cond.methodLink RX5 146 yX3_headRecord, Cond.methodLink RX5 70 yX0_openAt, Cond.instanceMethod yX0_openAt, Cond.selects RX0 yX0_openAt yX0_openAt, Cond.initialized RX0, Cond.code yX0_openAt cX0_openAt 4 none, Cond.fieldLink RX0 19 "GroupLog$Log" "firstRecord" "I", Cond.fieldLink RX0 23 "GroupLog$Log" "keptFrom" "I", Cond.fieldLink RX0 26 "GroupLog$Log" "lastSafe" "I", Cond.fieldLink RX0 29 "GroupLog$Log" "firstPlace" "I"]
def wsX5_start_r4 : List Cond := [Cond.fieldLink RX0 32 "GroupLog$Log" "used" "I", Cond.fieldLink RX0 35 "GroupLog$Log" "nextPlace" "I", Cond.fieldLink RX0 38 "GroupLog$Log" "nextSerial" "I", Cond.methodLink RX5 149 yX2_readInto, Cond.instanceMethod yX2_readInto, Cond.selects RX2 yX2_readInto yX2_readInto, Cond.initialized RX2, Cond.code yX2_readInto cX2_readInto 9 none, Cond.fieldLink RX2 15 "GroupLog$Reader" "have" "I", Cond.fieldLink RX2 25 "GroupLog$Reader" "ended" "Z", Cond.methodLink RX2 37 yX4_sector, Cond.methodLink RX2 43 yX3_isSoundLog, Cond.instanceMethod yX3_isSoundLog, Cond.selects RX3 yX3_isSoundLog yX3_isSoundLog, Cond.code yX3_isSoundLog cX3_isSoundLog 1 (some .boolean), Cond.methodLink RX3 62 yX3_logBytes, Cond.instanceMethod yX3_logBytes, Cond.selects RX3 yX3_logBytes yX3_logBytes, Cond.code yX3_logBytes cX3_logBytes 1 (some .int), Cond.methodLink RX3 59 yX3_logSum, Cond.instanceMethod yX3_logSum, Cond.selects RX3 yX3_logSum yX3_logSum, Cond.code yX3_logSum cX3_logSum 1 (some .int), Cond.methodLink RX2 49 yX3_serial]
def wsX5_start_r5 : List Cond := [Cond.instanceMethod yX3_serial, Cond.selects RX3 yX3_serial yX3_serial, Cond.code yX3_serial cX3_serial 1 (some .int), Cond.methodLink RX2 53 yX3_logVersion, Cond.instanceMethod yX3_logVersion, Cond.selects RX3 yX3_logVersion yX3_logVersion, Cond.code yX3_logVersion cX3_logVersion 1 (some .int), Cond.methodLink RX2 60 yX2_fits, Cond.instanceMethod yX2_fits, Cond.selects RX2 yX2_fits yX2_fits, Cond.code yX2_fits cX2_fits 5 (some .boolean), Cond.methodLink RX2 79 yX3_logBegin, Cond.instanceMethod yX3_logBegin, Cond.selects RX3 yX3_logBegin yX3_logBegin, Cond.code yX3_logBegin cX3_logBegin 1 (some .int), Cond.methodLink RX2 82 yX3_logBytes, Cond.methodLink RX2 85 yX2_lackingBefore, Cond.instanceMethod yX2_lackingBefore, Cond.selects RX2 yX2_lackingBefore yX2_lackingBefore, Cond.code yX2_lackingBefore cX2_lackingBefore 4 (some .int), Cond.fieldLink RX2 9 "GroupLog$Reader" "front" "[I", Cond.methodLink RX2 89 yX3_logByte, Cond.instanceMethod yX3_logByte, Cond.selects RX3 yX3_logByte yX3_logByte]
def wsX5_start_r6 : List Cond := [Cond.code yX3_logByte cX3_logByte 2 (some .int), Cond.methodLink RX2 64 yX2_takeRecords, Cond.instanceMethod yX2_takeRecords, Cond.selects RX2 yX2_takeRecords yX2_takeRecords, Cond.code yX2_takeRecords cX2_takeRecords 8 (some .boolean), Cond.methodLink RX2 96 yX2_takeByte, Cond.instanceMethod yX2_takeByte, Cond.selects RX2 yX2_takeByte yX2_takeByte, Cond.code yX2_takeByte cX2_takeByte 5 none, Cond.fieldLink RX2 19 "GroupLog$Reader" "beginPlace" "I", Cond.fieldLink RX2 22 "GroupLog$Reader" "beginOffset" "I", Cond.methodLink RX2 100 yX2_isNext, Cond.instanceMethod yX2_isNext, Cond.selects RX2 yX2_isNext yX2_isNext, Cond.code yX2_isNext cX2_isNext 3 (some .boolean), Cond.methodLink RX2 104 yX2_frontBytes, Cond.instanceMethod yX2_frontBytes, Cond.selects RX2 yX2_frontBytes yX2_frontBytes, Cond.code yX2_frontBytes cX2_frontBytes 1 (some .int), Cond.methodLink RX2 107 yX0_addSafe, Cond.instanceMethod yX0_addSafe, Cond.selects RX0 yX0_addSafe yX0_addSafe, Cond.code yX0_addSafe cX0_addSafe 3 none, Cond.fieldLink RX0 9 "GroupLog$Log" "begins" "[I"]
def wsX5_start_r7 : List Cond := [Cond.methodLink RX0 45 yX0_slotOf, Cond.static yX0_slotOf, Cond.code yX0_slotOf cX0_slotOf 1 (some .int), Cond.methodLink RX2 71 yX0_advance, Cond.instanceMethod yX0_advance, Cond.selects RX0 yX0_advance yX0_advance, Cond.code yX0_advance cX0_advance 2 none, Cond.static yX5_placeBehind, Cond.code yX5_placeBehind cX5_placeBehind 2 (some .int), Cond.methodLink RX5 195 yJ9_floorMod_7cf53, Cond.static yJ9_floorMod_7cf53, Cond.initialized RJ9, Cond.code yJ9_floorMod_7cf53 cJ9_floorMod_7cf53 3 (some .int), Cond.methodLink RX5 120 yX5_writeHead, Cond.instanceMethod yX5_writeHead, Cond.selects RX5 yX5_writeHead yX5_writeHead, Cond.code yX5_writeHead cX5_writeHead 6 (some .boolean), Cond.fieldLink RX5 40 "GroupLog" "draft" "LGroupLog$Sector;", Cond.methodLink RX5 190 yX4_headVersion, Cond.instanceMethod yX4_headVersion, Cond.selects RX4 yX4_headVersion yX4_headVersion, Cond.code yX4_headVersion cX4_headVersion 2 (some .int), Cond.methodLink RX4 52 yX4_latestHead, Cond.methodLink RX5 66 yX3_makeHead]
def wsX5_start_r8 : List Cond := [Cond.instanceMethod yX3_makeHead, Cond.selects RX3 yX3_makeHead yX3_makeHead, Cond.code yX3_makeHead cX3_makeHead 5 none, Cond.methodLink RX3 36 yX3_clear, Cond.instanceMethod yX3_clear, Cond.selects RX3 yX3_clear yX3_clear, Cond.code yX3_clear cX3_clear 2 none, Cond.methodLink RX3 39 yX3_setNumber, Cond.instanceMethod yX3_setNumber, Cond.selects RX3 yX3_setNumber yX3_setNumber, Cond.code yX3_setNumber cX3_setNumber 3 none, Cond.methodLink RX3 19 yX3_set, Cond.instanceMethod yX3_set, Cond.selects RX3 yX3_set yX3_set, Cond.code yX3_set cX3_set 3 none, Cond.methodLink RX5 208 yX5_writeDraft, Cond.instanceMethod yX5_writeDraft, Cond.selects RX5 yX5_writeDraft yX5_writeDraft, Cond.code yX5_writeDraft cX5_writeDraft 3 (some .boolean), Cond.methodLink RX5 204 yX4_write, Cond.instanceMethod yX4_write, Cond.selects RX4 yX4_write yX4_write, Cond.code yX4_write cX4_write 3 (some .boolean), Cond.fieldLink RX4 22 "GroupLog$Store" "stepsLeft" "I"]
def wsX5_start_r9 : List Cond := [Cond.fieldLink RX4 25 "GroupLog$Store" "part" "I", Cond.fieldLink RX4 18 "GroupLog$Store" "steps" "I", Cond.methodLink RX4 32 yX3_takePart, Cond.instanceMethod yX3_takePart, Cond.selects RX3 yX3_takePart yX3_takePart, Cond.code yX3_takePart cX3_takePart 3 none, Cond.methodLink RX3 23 yX3_takeBytes, Cond.instanceMethod yX3_takeBytes, Cond.selects RX3 yX3_takeBytes yX3_takeBytes, Cond.code yX3_takeBytes cX3_takeBytes 4 none, Cond.methodLink RX4 36 yX3_takeWhole, Cond.instanceMethod yX3_takeWhole, Cond.selects RX3 yX3_takeWhole yX3_takeWhole, Cond.code yX3_takeWhole cX3_takeWhole 2 none, Cond.methodLink RX5 128 yX5_powerGoes, Cond.instanceMethod yX5_powerGoes, Cond.selects RX5 yX5_powerGoes yX5_powerGoes, Cond.code yX5_powerGoes cX5_powerGoes 1 none, Cond.fieldLink RX5 19 "GroupLog" "queue" "LGroupLog$Queue;", Cond.methodLink RX5 201 yX1_empty, Cond.instanceMethod yX1_empty, Cond.selects RX1 yX1_empty yX1_empty, Cond.initialized RX1, Cond.code yX1_empty cX1_empty 1 none]
def wsX5_start_r10 : List Cond := [Cond.fieldLink RX1 15 "GroupLog$Queue" "length" "I", Cond.fieldLink RX1 19 "GroupLog$Queue" "records" "I", Cond.fieldLink RX1 22 "GroupLog$Queue" "waited" "I"]
def wsX5_start : List Cond := .code yX5_start cX5_start 4 (some .int) :: ((wsX5_start_r1 ++ (wsX5_start_r2 ++ (wsX5_start_r3 ++ (wsX5_start_r4 ++ (wsX5_start_r5 ++ (wsX5_start_r6 ++ (wsX5_start_r7 ++ (wsX5_start_r8 ++ (wsX5_start_r9 ++ wsX5_start_r10))))))))) ++ wsX50 ++ wsX00 ++ wsX40 ++ wsX30 ++ wsX20 ++ wsX10)
def wsX5_first : List Cond := .code yX5_first cX5_first 1 (some .int) :: ([.fieldLink RX5 58 "GroupLog" "on" "Z", .fieldLink RX5 26 "GroupLog" "log" "LGroupLog$Log;"] ++ wsX50 ++ wsX00)
def wsX5_safe : List Cond := .code yX5_safe cX5_safe 1 (some .int) :: ([.fieldLink RX5 58 "GroupLog" "on" "Z", .fieldLink RX5 26 "GroupLog" "log" "LGroupLog$Log;"] ++ wsX50 ++ wsX00)
def wsX5_size_r1 : List Cond := [Cond.fieldLink RX5 58 "GroupLog" "on" "Z", Cond.fieldLink RX5 26 "GroupLog" "log" "LGroupLog$Log;", Cond.fieldLink RX5 12 "GroupLog" "store" "LGroupLog$Store;", Cond.methodLink RX5 156 yX0_has, Cond.instanceMethod yX0_has, Cond.selects RX0 yX0_has yX0_has, Cond.initialized RX0, Cond.code yX0_has cX0_has 2 (some .boolean), Cond.fieldLink RX0 19 "GroupLog$Log" "firstRecord" "I", Cond.fieldLink RX0 26 "GroupLog$Log" "lastSafe" "I", Cond.methodLink RX5 159 yX0_dataBytes, Cond.instanceMethod yX0_dataBytes, Cond.selects RX0 yX0_dataBytes yX0_dataBytes, Cond.code yX0_dataBytes cX0_dataBytes 3 (some .int), Cond.methodLink RX0 64 yX0_byteOf, Cond.instanceMethod yX0_byteOf, Cond.selects RX0 yX0_byteOf yX0_byteOf, Cond.code yX0_byteOf cX0_byteOf 8 (some .int), Cond.methodLink RX0 56 yX0_placeOf, Cond.instanceMethod yX0_placeOf, Cond.selects RX0 yX0_placeOf yX0_placeOf, Cond.code yX0_placeOf cX0_placeOf 2 (some .int), Cond.fieldLink RX0 35 "GroupLog$Log" "nextPlace" "I", Cond.methodLink RX0 49 yX0_beginOf]
def wsX5_size_r2 : List Cond := [Cond.instanceMethod yX0_beginOf, Cond.selects RX0 yX0_beginOf yX0_beginOf, Cond.code yX0_beginOf cX0_beginOf 2 (some .int), Cond.fieldLink RX0 9 "GroupLog$Log" "begins" "[I", Cond.methodLink RX0 45 yX0_slotOf, Cond.static yX0_slotOf, Cond.code yX0_slotOf cX0_slotOf 1 (some .int), Cond.methodLink RX0 68 yX4_sector, Cond.instanceMethod yX4_sector, Cond.selects RX4 yX4_sector yX4_sector, Cond.initialized RX4, Cond.code yX4_sector cX4_sector 2 (some (.object "GroupLog$Sector")), Cond.fieldLink RX4 11 "GroupLog$Store" "sectors" "[LGroupLog$Sector;", Cond.methodLink RX0 74 yX3_logBytes, Cond.instanceMethod yX3_logBytes, Cond.selects RX3 yX3_logBytes yX3_logBytes, Cond.initialized RX3, Cond.code yX3_logBytes cX3_logBytes 1 (some .int), Cond.methodLink RX3 27 yX3_get, Cond.instanceMethod yX3_get, Cond.selects RX3 yX3_get yX3_get, Cond.code yX3_get cX3_get 2 (some .int), Cond.fieldLink RX3 9 "GroupLog$Sector" "bytes" "[I", Cond.methodLink RX0 80 yX3_logByte]
def wsX5_size_r3 : List Cond := [Cond.instanceMethod yX3_logByte, Cond.selects RX3 yX3_logByte yX3_logByte, Cond.code yX3_logByte cX3_logByte 2 (some .int), Cond.static yX5_placeBehind, Cond.initialized RX5, Cond.code yX5_placeBehind cX5_placeBehind 2 (some .int), Cond.methodLink RX5 195 yJ9_floorMod_7cf53, Cond.static yJ9_floorMod_7cf53, Cond.initialized RJ9, Cond.code yJ9_floorMod_7cf53 cJ9_floorMod_7cf53 3 (some .int)]
def wsX5_size : List Cond := .code yX5_size cX5_size 2 (some .int) :: ((wsX5_size_r1 ++ (wsX5_size_r2 ++ wsX5_size_r3)) ++ wsX50 ++ wsX00 ++ wsX40 ++ wsX30)
def wsX5_at_r1 : List Cond := [Cond.fieldLink RX5 58 "GroupLog" "on" "Z", Cond.fieldLink RX5 26 "GroupLog" "log" "LGroupLog$Log;", Cond.fieldLink RX5 12 "GroupLog" "store" "LGroupLog$Store;", Cond.methodLink RX5 156 yX0_has, Cond.instanceMethod yX0_has, Cond.selects RX0 yX0_has yX0_has, Cond.initialized RX0, Cond.code yX0_has cX0_has 2 (some .boolean), Cond.fieldLink RX0 19 "GroupLog$Log" "firstRecord" "I", Cond.fieldLink RX0 26 "GroupLog$Log" "lastSafe" "I", Cond.methodLink RX5 159 yX0_dataBytes, Cond.instanceMethod yX0_dataBytes, Cond.selects RX0 yX0_dataBytes yX0_dataBytes, Cond.code yX0_dataBytes cX0_dataBytes 3 (some .int), Cond.methodLink RX0 64 yX0_byteOf, Cond.instanceMethod yX0_byteOf, Cond.selects RX0 yX0_byteOf yX0_byteOf, Cond.code yX0_byteOf cX0_byteOf 8 (some .int), Cond.methodLink RX0 56 yX0_placeOf, Cond.instanceMethod yX0_placeOf, Cond.selects RX0 yX0_placeOf yX0_placeOf, Cond.code yX0_placeOf cX0_placeOf 2 (some .int), Cond.fieldLink RX0 35 "GroupLog$Log" "nextPlace" "I", Cond.methodLink RX0 49 yX0_beginOf]
def wsX5_at_r2 : List Cond := [Cond.instanceMethod yX0_beginOf, Cond.selects RX0 yX0_beginOf yX0_beginOf, Cond.code yX0_beginOf cX0_beginOf 2 (some .int), Cond.fieldLink RX0 9 "GroupLog$Log" "begins" "[I", Cond.methodLink RX0 45 yX0_slotOf, Cond.static yX0_slotOf, Cond.code yX0_slotOf cX0_slotOf 1 (some .int), Cond.methodLink RX0 68 yX4_sector, Cond.instanceMethod yX4_sector, Cond.selects RX4 yX4_sector yX4_sector, Cond.initialized RX4, Cond.code yX4_sector cX4_sector 2 (some (.object "GroupLog$Sector")), Cond.fieldLink RX4 11 "GroupLog$Store" "sectors" "[LGroupLog$Sector;", Cond.methodLink RX0 74 yX3_logBytes, Cond.instanceMethod yX3_logBytes, Cond.selects RX3 yX3_logBytes yX3_logBytes, Cond.initialized RX3, Cond.code yX3_logBytes cX3_logBytes 1 (some .int), Cond.methodLink RX3 27 yX3_get, Cond.instanceMethod yX3_get, Cond.selects RX3 yX3_get yX3_get, Cond.code yX3_get cX3_get 2 (some .int), Cond.fieldLink RX3 9 "GroupLog$Sector" "bytes" "[I", Cond.methodLink RX0 80 yX3_logByte]
def wsX5_at_r3 : List Cond := [Cond.instanceMethod yX3_logByte, Cond.selects RX3 yX3_logByte yX3_logByte, Cond.code yX3_logByte cX3_logByte 2 (some .int), Cond.static yX5_placeBehind, Cond.initialized RX5, Cond.code yX5_placeBehind cX5_placeBehind 2 (some .int), Cond.methodLink RX5 195 yJ9_floorMod_7cf53, Cond.static yJ9_floorMod_7cf53, Cond.initialized RJ9, Cond.code yJ9_floorMod_7cf53 cJ9_floorMod_7cf53 3 (some .int), Cond.methodLink RX5 163 yX0_byteOf]
def wsX5_at : List Cond := .code yX5_at cX5_at 3 (some .int) :: ((wsX5_at_r1 ++ (wsX5_at_r2 ++ wsX5_at_r3)) ++ wsX50 ++ wsX00 ++ wsX40 ++ wsX30)
def wsX5_isByte : List Cond := .code yX5_isByte cX5_isByte 2 (some .boolean) :: ([])
def wsX5_disk : List Cond := .code yX5_disk cX5_disk 3 (some .int) :: ([.fieldLink RX5 12 "GroupLog" "store" "LGroupLog$Store;", .methodLink RX5 167 yX5_isByte, .static yX5_isByte, .initialized RX5, .code yX5_isByte cX5_isByte 2 (some .boolean), .methodLink RX5 62 yX4_sector, .instanceMethod yX4_sector, .selects RX4 yX4_sector yX4_sector, .initialized RX4, .code yX4_sector cX4_sector 2 (some (.object "GroupLog$Sector")), .fieldLink RX4 11 "GroupLog$Store" "sectors" "[LGroupLog$Sector;", .methodLink RX5 171 yX3_get, .instanceMethod yX3_get, .selects RX3 yX3_get yX3_get, .initialized RX3, .code yX3_get cX3_get 2 (some .int), .fieldLink RX3 9 "GroupLog$Sector" "bytes" "[I"] ++ wsX50 ++ wsX40 ++ wsX30)
def wsX5_poke : List Cond := .code yX5_poke cX5_poke 5 (some .boolean) :: ([.fieldLink RX5 58 "GroupLog" "on" "Z", .fieldLink RX5 12 "GroupLog" "store" "LGroupLog$Store;", .methodLink RX5 167 yX5_isByte, .static yX5_isByte, .initialized RX5, .code yX5_isByte cX5_isByte 2 (some .boolean), .methodLink RX5 62 yX4_sector, .instanceMethod yX4_sector, .selects RX4 yX4_sector yX4_sector, .initialized RX4, .code yX4_sector cX4_sector 2 (some (.object "GroupLog$Sector")), .fieldLink RX4 11 "GroupLog$Store" "sectors" "[LGroupLog$Sector;", .methodLink RX5 171 yX3_get, .instanceMethod yX3_get, .selects RX3 yX3_get yX3_get, .initialized RX3, .code yX3_get cX3_get 2 (some .int), .fieldLink RX3 9 "GroupLog$Sector" "bytes" "[I", .methodLink RX5 174 yX3_set, .instanceMethod yX3_set, .selects RX3 yX3_set yX3_set, .code yX3_set cX3_set 3 none] ++ wsX50 ++ wsX40 ++ wsX30)
def wsX5_torn : List Cond := .code yX5_torn cX5_torn 2 (some .boolean) :: ([.fieldLink RX5 12 "GroupLog" "store" "LGroupLog$Store;", .methodLink RX5 167 yX5_isByte, .static yX5_isByte, .initialized RX5, .code yX5_isByte cX5_isByte 2 (some .boolean), .methodLink RX5 62 yX4_sector, .instanceMethod yX4_sector, .selects RX4 yX4_sector yX4_sector, .initialized RX4, .code yX4_sector cX4_sector 2 (some (.object "GroupLog$Sector")), .fieldLink RX4 11 "GroupLog$Store" "sectors" "[LGroupLog$Sector;"] ++ wsX50 ++ wsX30 ++ wsX40)
def wsX5_countWhileOn_r1 : List Cond := [Cond.fieldLink RX5 19 "GroupLog" "queue" "LGroupLog$Queue;", Cond.fieldLink RX5 26 "GroupLog" "log" "LGroupLog$Log;", Cond.fieldLink RX5 12 "GroupLog" "store" "LGroupLog$Store;", Cond.methodLink RX5 190 yX4_headVersion, Cond.instanceMethod yX4_headVersion, Cond.selects RX4 yX4_headVersion yX4_headVersion, Cond.initialized RX4, Cond.code yX4_headVersion cX4_headVersion 2 (some .int), Cond.methodLink RX4 52 yX4_latestHead, Cond.instanceMethod yX4_latestHead, Cond.selects RX4 yX4_latestHead yX4_latestHead, Cond.code yX4_latestHead cX4_latestHead 3 (some .int), Cond.methodLink RX4 28 yX4_sector, Cond.instanceMethod yX4_sector, Cond.selects RX4 yX4_sector yX4_sector, Cond.code yX4_sector cX4_sector 2 (some (.object "GroupLog$Sector")), Cond.fieldLink RX4 11 "GroupLog$Store" "sectors" "[LGroupLog$Sector;", Cond.methodLink RX4 40 yX3_isGoodHead, Cond.instanceMethod yX3_isGoodHead, Cond.selects RX3 yX3_isGoodHead yX3_isGoodHead, Cond.initialized RX3, Cond.code yX3_isGoodHead cX3_isGoodHead 1 (some .boolean), Cond.fieldLink RX3 15 "GroupLog$Sector" "isTorn" "Z", Cond.constant RX3 55 (1000000000)]
def wsX5_countWhileOn_r2 : List Cond := [Cond.methodLink RX3 46 yX3_number, Cond.instanceMethod yX3_number, Cond.selects RX3 yX3_number yX3_number, Cond.code yX3_number cX3_number 2 (some .int), Cond.fieldLink RX3 9 "GroupLog$Sector" "bytes" "[I", Cond.methodLink RX3 42 yX3_headSum, Cond.instanceMethod yX3_headSum, Cond.selects RX3 yX3_headSum yX3_headSum, Cond.code yX3_headSum cX3_headSum 1 (some .int), Cond.methodLink RX3 32 yX3_sumOver, Cond.instanceMethod yX3_sumOver, Cond.selects RX3 yX3_sumOver yX3_sumOver, Cond.code yX3_sumOver cX3_sumOver 7 (some .int), Cond.constant RX3 31 (-306674912), Cond.methodLink RX3 49 yX3_headVersion, Cond.instanceMethod yX3_headVersion, Cond.selects RX3 yX3_headVersion yX3_headVersion, Cond.code yX3_headVersion cX3_headVersion 1 (some .int), Cond.methodLink RX3 52 yX3_headRecord, Cond.instanceMethod yX3_headRecord, Cond.selects RX3 yX3_headRecord yX3_headRecord, Cond.code yX3_headRecord cX3_headRecord 1 (some .int), Cond.methodLink RX3 56 yX3_headPlace, Cond.instanceMethod yX3_headPlace]
def wsX5_countWhileOn_r3 : List Cond := [Cond.selects RX3 yX3_headPlace yX3_headPlace, Cond.code yX3_headPlace cX3_headPlace 1 (some .int), Cond.methodLink RX3 27 yX3_get, Cond.instanceMethod yX3_get, Cond.selects RX3 yX3_get yX3_get, Cond.code yX3_get cX3_get 2 (some .int), Cond.methodLink RX4 44 yX3_headVersion, Cond.static yX5_isBelow, Cond.initialized RX5, Cond.code yX5_isBelow cX5_isBelow 2 (some .boolean), Cond.constantLong RX5 193 (4294967295)]
def wsX5_countWhileOn : List Cond := .code yX5_countWhileOn cX5_countWhileOn 2 (some .int) :: ((wsX5_countWhileOn_r1 ++ (wsX5_countWhileOn_r2 ++ wsX5_countWhileOn_r3)) ++ wsX50 ++ wsX10 ++ wsX00 ++ wsX40 ++ wsX30)
def wsX5_count_r1 : List Cond := [Cond.fieldLink RX5 58 "GroupLog" "on" "Z", Cond.fieldLink RX5 12 "GroupLog" "store" "LGroupLog$Store;", Cond.fieldLink RX5 55 "GroupLog" "flushes" "I", Cond.methodLink RX5 184 yX5_countWhileOn, Cond.instanceMethod yX5_countWhileOn, Cond.selects RX5 yX5_countWhileOn yX5_countWhileOn, Cond.initialized RX5, Cond.code yX5_countWhileOn cX5_countWhileOn 2 (some .int), Cond.fieldLink RX5 19 "GroupLog" "queue" "LGroupLog$Queue;", Cond.fieldLink RX5 26 "GroupLog" "log" "LGroupLog$Log;", Cond.methodLink RX5 190 yX4_headVersion, Cond.instanceMethod yX4_headVersion, Cond.selects RX4 yX4_headVersion yX4_headVersion, Cond.initialized RX4, Cond.code yX4_headVersion cX4_headVersion 2 (some .int), Cond.methodLink RX4 52 yX4_latestHead, Cond.instanceMethod yX4_latestHead, Cond.selects RX4 yX4_latestHead yX4_latestHead, Cond.code yX4_latestHead cX4_latestHead 3 (some .int), Cond.methodLink RX4 28 yX4_sector, Cond.instanceMethod yX4_sector, Cond.selects RX4 yX4_sector yX4_sector, Cond.code yX4_sector cX4_sector 2 (some (.object "GroupLog$Sector")), Cond.fieldLink RX4 11 "GroupLog$Store" "sectors" "[LGroupLog$Sector;"]
def wsX5_count_r2 : List Cond := [Cond.methodLink RX4 40 yX3_isGoodHead, Cond.instanceMethod yX3_isGoodHead, Cond.selects RX3 yX3_isGoodHead yX3_isGoodHead, Cond.initialized RX3, Cond.code yX3_isGoodHead cX3_isGoodHead 1 (some .boolean), Cond.fieldLink RX3 15 "GroupLog$Sector" "isTorn" "Z", Cond.constant RX3 55 (1000000000), Cond.methodLink RX3 46 yX3_number, Cond.instanceMethod yX3_number, Cond.selects RX3 yX3_number yX3_number, Cond.code yX3_number cX3_number 2 (some .int), Cond.fieldLink RX3 9 "GroupLog$Sector" "bytes" "[I", Cond.methodLink RX3 42 yX3_headSum, Cond.instanceMethod yX3_headSum, Cond.selects RX3 yX3_headSum yX3_headSum, Cond.code yX3_headSum cX3_headSum 1 (some .int), Cond.methodLink RX3 32 yX3_sumOver, Cond.instanceMethod yX3_sumOver, Cond.selects RX3 yX3_sumOver yX3_sumOver, Cond.code yX3_sumOver cX3_sumOver 7 (some .int), Cond.constant RX3 31 (-306674912), Cond.methodLink RX3 49 yX3_headVersion, Cond.instanceMethod yX3_headVersion, Cond.selects RX3 yX3_headVersion yX3_headVersion]
def wsX5_count_r3 : List Cond := [Cond.code yX3_headVersion cX3_headVersion 1 (some .int), Cond.methodLink RX3 52 yX3_headRecord, Cond.instanceMethod yX3_headRecord, Cond.selects RX3 yX3_headRecord yX3_headRecord, Cond.code yX3_headRecord cX3_headRecord 1 (some .int), Cond.methodLink RX3 56 yX3_headPlace, Cond.instanceMethod yX3_headPlace, Cond.selects RX3 yX3_headPlace yX3_headPlace, Cond.code yX3_headPlace cX3_headPlace 1 (some .int), Cond.methodLink RX3 27 yX3_get, Cond.instanceMethod yX3_get, Cond.selects RX3 yX3_get yX3_get, Cond.code yX3_get cX3_get 2 (some .int), Cond.methodLink RX4 44 yX3_headVersion, Cond.static yX5_isBelow, Cond.code yX5_isBelow cX5_isBelow 2 (some .boolean), Cond.constantLong RX5 193 (4294967295)]
def wsX5_count : List Cond := .code yX5_count cX5_count 2 (some .int) :: ((wsX5_count_r1 ++ (wsX5_count_r2 ++ wsX5_count_r3)) ++ wsX50 ++ wsX40 ++ wsX10 ++ wsX00 ++ wsX30)
def wsX6_clear : List Cond := .code yX6_clear cX6_clear 2 none :: ([.fieldLink RX6 65 "GroupLogModel" "sector" "[B"] ++ wsX60)
def wsX6_set : List Cond := .code yX6_set cX6_set 4 none :: ([.fieldLink RX6 65 "GroupLogModel" "sector" "[B"] ++ wsX60)
def wsX6_add : List Cond := .code yX6_add cX6_add 4 (some .int) :: ([.constant RX6 74 (-306674912)])
def wsX6_headSum : List Cond := .code yX6_headSum cX6_headSum 4 (some .int) :: ([.methodLink RX6 75 yX6_add, .static yX6_add, .initialized RX6, .code yX6_add cX6_add 4 (some .int), .constant RX6 74 (-306674912)])
def wsX6_makeHead : List Cond := .code yX6_makeHead cX6_makeHead 1 none :: ([.fieldLink RX6 38 "GroupLogModel" "version" "I", .fieldLink RX6 41 "GroupLogModel" "firstSerial" "I", .fieldLink RX6 44 "GroupLogModel" "firstRecord" "I", .fieldLink RX6 65 "GroupLogModel" "sector" "[B", .fieldLink RX6 47 "GroupLogModel" "place" "I", .methodLink RX6 79 yX6_clear, .instanceMethod yX6_clear, .selects RX6 yX6_clear yX6_clear, .initialized RX6, .code yX6_clear cX6_clear 2 none, .methodLink RX6 82 yX6_set, .instanceMethod yX6_set, .selects RX6 yX6_set yX6_set, .code yX6_set cX6_set 4 none, .methodLink RX6 86 yX6_headSum, .static yX6_headSum, .code yX6_headSum cX6_headSum 4 (some .int), .methodLink RX6 75 yX6_add, .static yX6_add, .code yX6_add cX6_add 4 (some .int), .constant RX6 74 (-306674912)] ++ wsX60)
def wsX6_init_r1 : List Cond := [Cond.methodLink RX6 1 objectInit, Cond.instanceMethod objectInit, Cond.code objectInit ⟨#[0xb1]⟩ 1 none, Cond.arrayClass .byte, Cond.fieldLink RX6 7 "GroupLogModel" "disk" "[B", Cond.arrayClass .boolean, Cond.fieldLink RX6 13 "GroupLogModel" "isTorn" "[Z", Cond.fieldLink RX6 17 "GroupLogModel" "isOn" "Z", Cond.fieldLink RX6 21 "GroupLogModel" "armed" "I", Cond.fieldLink RX6 25 "GroupLogModel" "delay" "I", Cond.fieldLink RX6 28 "GroupLogModel" "tape" "[B", Cond.fieldLink RX6 31 "GroupLogModel" "queue" "[B", Cond.arrayClass .int, Cond.fieldLink RX6 34 "GroupLogModel" "queueBegins" "[I", Cond.fieldLink RX6 38 "GroupLogModel" "version" "I", Cond.fieldLink RX6 41 "GroupLogModel" "firstSerial" "I", Cond.fieldLink RX6 44 "GroupLogModel" "firstRecord" "I", Cond.fieldLink RX6 47 "GroupLogModel" "place" "I", Cond.fieldLink RX6 50 "GroupLogModel" "nextSector" "I", Cond.fieldLink RX6 53 "GroupLogModel" "nextSerial" "I", Cond.fieldLink RX6 56 "GroupLogModel" "recordSector" "[I", Cond.fieldLink RX6 59 "GroupLogModel" "recordByte" "[I", Cond.fieldLink RX6 62 "GroupLogModel" "recordSize" "[I", Cond.fieldLink RX6 65 "GroupLogModel" "sector" "[B"]
def wsX6_init_r2 : List Cond := [Cond.fieldLink RX6 68 "GroupLogModel" "head" "[I", Cond.methodLink RX6 71 yX6_makeHead, Cond.instanceMethod yX6_makeHead, Cond.selects RX6 yX6_makeHead yX6_makeHead, Cond.initialized RX6, Cond.code yX6_makeHead cX6_makeHead 1 none, Cond.methodLink RX6 79 yX6_clear, Cond.instanceMethod yX6_clear, Cond.selects RX6 yX6_clear yX6_clear, Cond.code yX6_clear cX6_clear 2 none, Cond.methodLink RX6 82 yX6_set, Cond.instanceMethod yX6_set, Cond.selects RX6 yX6_set yX6_set, Cond.code yX6_set cX6_set 4 none, Cond.methodLink RX6 86 yX6_headSum, Cond.static yX6_headSum, Cond.code yX6_headSum cX6_headSum 4 (some .int), Cond.methodLink RX6 75 yX6_add, Cond.static yX6_add, Cond.code yX6_add cX6_add 4 (some .int), Cond.constant RX6 74 (-306674912)]
def wsX6_init : List Cond := .code yX6_init cX6_init 2 none :: ((wsX6_init_r1 ++ wsX6_init_r2) ++ wsX60)
def wsX6_logSum : List Cond := .code yX6_logSum cX6_logSum 4 (some .int) :: ([.methodLink RX6 75 yX6_add, .static yX6_add, .initialized RX6, .code yX6_add cX6_add 4 (some .int), .constant RX6 74 (-306674912)])
def wsX6_numberAt : List Cond := .code yX6_numberAt cX6_numberAt 4 (some .int) :: ([.fieldLink RX6 7 "GroupLogModel" "disk" "[B"] ++ wsX60)
def wsX6_goOff : List Cond := .code yX6_goOff cX6_goOff 1 none :: ([.fieldLink RX6 17 "GroupLogModel" "isOn" "Z", .fieldLink RX6 21 "GroupLogModel" "armed" "I", .fieldLink RX6 99 "GroupLogModel" "queueSize" "I", .fieldLink RX6 102 "GroupLogModel" "queued" "I", .fieldLink RX6 105 "GroupLogModel" "waited" "I"] ++ wsX60)
def wsX6_write : List Cond := .code yX6_write cX6_write 4 (some .boolean) :: ([.fieldLink RX6 21 "GroupLogModel" "armed" "I", .fieldLink RX6 90 "GroupLogModel" "armedPart" "I", .fieldLink RX6 7 "GroupLogModel" "disk" "[B", .fieldLink RX6 65 "GroupLogModel" "sector" "[B", .fieldLink RX6 13 "GroupLogModel" "isTorn" "[Z", .fieldLink RX6 96 "GroupLogModel" "steps" "I", .methodLink RX6 93 yX6_goOff, .instanceMethod yX6_goOff, .selects RX6 yX6_goOff yX6_goOff, .initialized RX6, .code yX6_goOff cX6_goOff 1 none, .fieldLink RX6 17 "GroupLogModel" "isOn" "Z", .fieldLink RX6 99 "GroupLogModel" "queueSize" "I", .fieldLink RX6 102 "GroupLogModel" "queued" "I", .fieldLink RX6 105 "GroupLogModel" "waited" "I"] ++ wsX60)
def wsX6_used : List Cond := .code yX6_used cX6_used 1 (some .int) :: ([.fieldLink RX6 53 "GroupLogModel" "nextSerial" "I", .fieldLink RX6 41 "GroupLogModel" "firstSerial" "I"] ++ wsX60)
def wsX6_behind : List Cond := .code yX6_behind cX6_behind 1 (some .int) :: ([])
def wsX6_delay : List Cond := .code yX6_delay cX6_delay 2 (some .boolean) :: ([.fieldLink RX6 17 "GroupLogModel" "isOn" "Z", .fieldLink RX6 25 "GroupLogModel" "delay" "I"] ++ wsX60)
def wsX6_feed : List Cond := .code yX6_feed cX6_feed 2 (some .boolean) :: ([.fieldLink RX6 108 "GroupLogModel" "tapeSize" "I", .fieldLink RX6 28 "GroupLogModel" "tape" "[B"] ++ wsX60)
def wsX6_put : List Cond := .code yX6_put cX6_put 2 none :: ([.fieldLink RX6 31 "GroupLogModel" "queue" "[B", .fieldLink RX6 99 "GroupLogModel" "queueSize" "I"] ++ wsX60)
def wsX6_flushAll_r1 : List Cond := [Cond.fieldLink RX6 50 "GroupLogModel" "nextSector" "I", Cond.fieldLink RX6 99 "GroupLogModel" "queueSize" "I", Cond.fieldLink RX6 53 "GroupLogModel" "nextSerial" "I", Cond.fieldLink RX6 65 "GroupLogModel" "sector" "[B", Cond.fieldLink RX6 102 "GroupLogModel" "queued" "I", Cond.fieldLink RX6 34 "GroupLogModel" "queueBegins" "[I", Cond.fieldLink RX6 31 "GroupLogModel" "queue" "[B", Cond.fieldLink RX6 38 "GroupLogModel" "version" "I", Cond.fieldLink RX6 132 "GroupLogModel" "flushes" "I", Cond.fieldLink RX6 115 "GroupLogModel" "lastSafe" "I", Cond.fieldLink RX6 44 "GroupLogModel" "firstRecord" "I", Cond.fieldLink RX6 56 "GroupLogModel" "recordSector" "[I", Cond.fieldLink RX6 59 "GroupLogModel" "recordByte" "[I", Cond.fieldLink RX6 62 "GroupLogModel" "recordSize" "[I", Cond.fieldLink RX6 105 "GroupLogModel" "waited" "I", Cond.methodLink RX6 79 yX6_clear, Cond.instanceMethod yX6_clear, Cond.selects RX6 yX6_clear yX6_clear, Cond.initialized RX6, Cond.code yX6_clear cX6_clear 2 none, Cond.methodLink RX6 82 yX6_set, Cond.instanceMethod yX6_set, Cond.selects RX6 yX6_set yX6_set, Cond.code yX6_set cX6_set 4 none]
def wsX6_flushAll_r2 : List Cond := [Cond.methodLink RX6 125 yX6_logSum, Cond.static yX6_logSum, Cond.code yX6_logSum cX6_logSum 4 (some .int), Cond.methodLink RX6 75 yX6_add, Cond.static yX6_add, Cond.code yX6_add cX6_add 4 (some .int), Cond.constant RX6 74 (-306674912), Cond.methodLink RX6 128 yX6_write, Cond.instanceMethod yX6_write, Cond.selects RX6 yX6_write yX6_write, Cond.code yX6_write cX6_write 4 (some .boolean), Cond.fieldLink RX6 21 "GroupLogModel" "armed" "I", Cond.fieldLink RX6 90 "GroupLogModel" "armedPart" "I", Cond.fieldLink RX6 7 "GroupLogModel" "disk" "[B", Cond.fieldLink RX6 13 "GroupLogModel" "isTorn" "[Z", Cond.fieldLink RX6 96 "GroupLogModel" "steps" "I", Cond.methodLink RX6 93 yX6_goOff, Cond.instanceMethod yX6_goOff, Cond.selects RX6 yX6_goOff yX6_goOff, Cond.code yX6_goOff cX6_goOff 1 none, Cond.fieldLink RX6 17 "GroupLogModel" "isOn" "Z"]
def wsX6_flushAll : List Cond := .code yX6_flushAll cX6_flushAll 7 (some .int) :: ((wsX6_flushAll_r1 ++ wsX6_flushAll_r2) ++ wsX60)
def wsX6_append_r1 : List Cond := [Cond.fieldLink RX6 17 "GroupLogModel" "isOn" "Z", Cond.fieldLink RX6 108 "GroupLogModel" "tapeSize" "I", Cond.fieldLink RX6 99 "GroupLogModel" "queueSize" "I", Cond.fieldLink RX6 115 "GroupLogModel" "lastSafe" "I", Cond.fieldLink RX6 102 "GroupLogModel" "queued" "I", Cond.fieldLink RX6 105 "GroupLogModel" "waited" "I", Cond.fieldLink RX6 34 "GroupLogModel" "queueBegins" "[I", Cond.fieldLink RX6 28 "GroupLogModel" "tape" "[B", Cond.methodLink RX6 111 yX6_used, Cond.instanceMethod yX6_used, Cond.selects RX6 yX6_used yX6_used, Cond.initialized RX6, Cond.code yX6_used cX6_used 1 (some .int), Cond.fieldLink RX6 53 "GroupLogModel" "nextSerial" "I", Cond.fieldLink RX6 41 "GroupLogModel" "firstSerial" "I", Cond.methodLink RX6 118 yX6_put, Cond.instanceMethod yX6_put, Cond.selects RX6 yX6_put yX6_put, Cond.code yX6_put cX6_put 2 none, Cond.fieldLink RX6 31 "GroupLogModel" "queue" "[B", Cond.methodLink RX6 122 yX6_flushAll, Cond.instanceMethod yX6_flushAll, Cond.selects RX6 yX6_flushAll yX6_flushAll, Cond.code yX6_flushAll cX6_flushAll 7 (some .int)]
def wsX6_append_r2 : List Cond := [Cond.fieldLink RX6 50 "GroupLogModel" "nextSector" "I", Cond.fieldLink RX6 65 "GroupLogModel" "sector" "[B", Cond.fieldLink RX6 38 "GroupLogModel" "version" "I", Cond.fieldLink RX6 132 "GroupLogModel" "flushes" "I", Cond.fieldLink RX6 44 "GroupLogModel" "firstRecord" "I", Cond.fieldLink RX6 56 "GroupLogModel" "recordSector" "[I", Cond.fieldLink RX6 59 "GroupLogModel" "recordByte" "[I", Cond.fieldLink RX6 62 "GroupLogModel" "recordSize" "[I", Cond.methodLink RX6 79 yX6_clear, Cond.instanceMethod yX6_clear, Cond.selects RX6 yX6_clear yX6_clear, Cond.code yX6_clear cX6_clear 2 none, Cond.methodLink RX6 82 yX6_set, Cond.instanceMethod yX6_set, Cond.selects RX6 yX6_set yX6_set, Cond.code yX6_set cX6_set 4 none, Cond.methodLink RX6 125 yX6_logSum, Cond.static yX6_logSum, Cond.code yX6_logSum cX6_logSum 4 (some .int), Cond.methodLink RX6 75 yX6_add, Cond.static yX6_add, Cond.code yX6_add cX6_add 4 (some .int), Cond.constant RX6 74 (-306674912), Cond.methodLink RX6 128 yX6_write]
def wsX6_append_r3 : List Cond := [Cond.instanceMethod yX6_write, Cond.selects RX6 yX6_write yX6_write, Cond.code yX6_write cX6_write 4 (some .boolean), Cond.fieldLink RX6 21 "GroupLogModel" "armed" "I", Cond.fieldLink RX6 90 "GroupLogModel" "armedPart" "I", Cond.fieldLink RX6 7 "GroupLogModel" "disk" "[B", Cond.fieldLink RX6 13 "GroupLogModel" "isTorn" "[Z", Cond.fieldLink RX6 96 "GroupLogModel" "steps" "I", Cond.methodLink RX6 93 yX6_goOff, Cond.instanceMethod yX6_goOff, Cond.selects RX6 yX6_goOff yX6_goOff, Cond.code yX6_goOff cX6_goOff 1 none]
def wsX6_append : List Cond := .code yX6_append cX6_append 3 (some .int) :: ((wsX6_append_r1 ++ (wsX6_append_r2 ++ wsX6_append_r3)) ++ wsX60)
def wsX6_flush_r1 : List Cond := [Cond.fieldLink RX6 17 "GroupLogModel" "isOn" "Z", Cond.methodLink RX6 122 yX6_flushAll, Cond.instanceMethod yX6_flushAll, Cond.selects RX6 yX6_flushAll yX6_flushAll, Cond.initialized RX6, Cond.code yX6_flushAll cX6_flushAll 7 (some .int), Cond.fieldLink RX6 50 "GroupLogModel" "nextSector" "I", Cond.fieldLink RX6 99 "GroupLogModel" "queueSize" "I", Cond.fieldLink RX6 53 "GroupLogModel" "nextSerial" "I", Cond.fieldLink RX6 65 "GroupLogModel" "sector" "[B", Cond.fieldLink RX6 102 "GroupLogModel" "queued" "I", Cond.fieldLink RX6 34 "GroupLogModel" "queueBegins" "[I", Cond.fieldLink RX6 31 "GroupLogModel" "queue" "[B", Cond.fieldLink RX6 38 "GroupLogModel" "version" "I", Cond.fieldLink RX6 132 "GroupLogModel" "flushes" "I", Cond.fieldLink RX6 115 "GroupLogModel" "lastSafe" "I", Cond.fieldLink RX6 44 "GroupLogModel" "firstRecord" "I", Cond.fieldLink RX6 56 "GroupLogModel" "recordSector" "[I", Cond.fieldLink RX6 59 "GroupLogModel" "recordByte" "[I", Cond.fieldLink RX6 62 "GroupLogModel" "recordSize" "[I", Cond.fieldLink RX6 105 "GroupLogModel" "waited" "I", Cond.methodLink RX6 79 yX6_clear, Cond.instanceMethod yX6_clear, Cond.selects RX6 yX6_clear yX6_clear]
def wsX6_flush_r2 : List Cond := [Cond.code yX6_clear cX6_clear 2 none, Cond.methodLink RX6 82 yX6_set, Cond.instanceMethod yX6_set, Cond.selects RX6 yX6_set yX6_set, Cond.code yX6_set cX6_set 4 none, Cond.methodLink RX6 125 yX6_logSum, Cond.static yX6_logSum, Cond.code yX6_logSum cX6_logSum 4 (some .int), Cond.methodLink RX6 75 yX6_add, Cond.static yX6_add, Cond.code yX6_add cX6_add 4 (some .int), Cond.constant RX6 74 (-306674912), Cond.methodLink RX6 128 yX6_write, Cond.instanceMethod yX6_write, Cond.selects RX6 yX6_write yX6_write, Cond.code yX6_write cX6_write 4 (some .boolean), Cond.fieldLink RX6 21 "GroupLogModel" "armed" "I", Cond.fieldLink RX6 90 "GroupLogModel" "armedPart" "I", Cond.fieldLink RX6 7 "GroupLogModel" "disk" "[B", Cond.fieldLink RX6 13 "GroupLogModel" "isTorn" "[Z", Cond.fieldLink RX6 96 "GroupLogModel" "steps" "I", Cond.methodLink RX6 93 yX6_goOff, Cond.instanceMethod yX6_goOff, Cond.selects RX6 yX6_goOff yX6_goOff]
def wsX6_flush_r3 : List Cond := [Cond.code yX6_goOff cX6_goOff 1 none]
def wsX6_flush : List Cond := .code yX6_flush cX6_flush 1 (some .int) :: ((wsX6_flush_r1 ++ (wsX6_flush_r2 ++ wsX6_flush_r3)) ++ wsX60)
def wsX6_tick_r1 : List Cond := [Cond.fieldLink RX6 17 "GroupLogModel" "isOn" "Z", Cond.fieldLink RX6 102 "GroupLogModel" "queued" "I", Cond.fieldLink RX6 105 "GroupLogModel" "waited" "I", Cond.fieldLink RX6 25 "GroupLogModel" "delay" "I", Cond.methodLink RX6 122 yX6_flushAll, Cond.instanceMethod yX6_flushAll, Cond.selects RX6 yX6_flushAll yX6_flushAll, Cond.initialized RX6, Cond.code yX6_flushAll cX6_flushAll 7 (some .int), Cond.fieldLink RX6 50 "GroupLogModel" "nextSector" "I", Cond.fieldLink RX6 99 "GroupLogModel" "queueSize" "I", Cond.fieldLink RX6 53 "GroupLogModel" "nextSerial" "I", Cond.fieldLink RX6 65 "GroupLogModel" "sector" "[B", Cond.fieldLink RX6 34 "GroupLogModel" "queueBegins" "[I", Cond.fieldLink RX6 31 "GroupLogModel" "queue" "[B", Cond.fieldLink RX6 38 "GroupLogModel" "version" "I", Cond.fieldLink RX6 132 "GroupLogModel" "flushes" "I", Cond.fieldLink RX6 115 "GroupLogModel" "lastSafe" "I", Cond.fieldLink RX6 44 "GroupLogModel" "firstRecord" "I", Cond.fieldLink RX6 56 "GroupLogModel" "recordSector" "[I", Cond.fieldLink RX6 59 "GroupLogModel" "recordByte" "[I", Cond.fieldLink RX6 62 "GroupLogModel" "recordSize" "[I", Cond.methodLink RX6 79 yX6_clear, Cond.instanceMethod yX6_clear]
def wsX6_tick_r2 : List Cond := [Cond.selects RX6 yX6_clear yX6_clear, Cond.code yX6_clear cX6_clear 2 none, Cond.methodLink RX6 82 yX6_set, Cond.instanceMethod yX6_set, Cond.selects RX6 yX6_set yX6_set, Cond.code yX6_set cX6_set 4 none, Cond.methodLink RX6 125 yX6_logSum, Cond.static yX6_logSum, Cond.code yX6_logSum cX6_logSum 4 (some .int), Cond.methodLink RX6 75 yX6_add, Cond.static yX6_add, Cond.code yX6_add cX6_add 4 (some .int), Cond.constant RX6 74 (-306674912), Cond.methodLink RX6 128 yX6_write, Cond.instanceMethod yX6_write, Cond.selects RX6 yX6_write yX6_write, Cond.code yX6_write cX6_write 4 (some .boolean), Cond.fieldLink RX6 21 "GroupLogModel" "armed" "I", Cond.fieldLink RX6 90 "GroupLogModel" "armedPart" "I", Cond.fieldLink RX6 7 "GroupLogModel" "disk" "[B", Cond.fieldLink RX6 13 "GroupLogModel" "isTorn" "[Z", Cond.fieldLink RX6 96 "GroupLogModel" "steps" "I", Cond.methodLink RX6 93 yX6_goOff, Cond.instanceMethod yX6_goOff]
def wsX6_tick_r3 : List Cond := [Cond.selects RX6 yX6_goOff yX6_goOff, Cond.code yX6_goOff cX6_goOff 1 none]
def wsX6_tick : List Cond := .code yX6_tick cX6_tick 4 (some .int) :: ((wsX6_tick_r1 ++ (wsX6_tick_r2 ++ wsX6_tick_r3)) ++ wsX60)
def wsX6_checkpoint_r1 : List Cond := [Cond.fieldLink RX6 17 "GroupLogModel" "isOn" "Z", Cond.fieldLink RX6 44 "GroupLogModel" "firstRecord" "I", Cond.fieldLink RX6 115 "GroupLogModel" "lastSafe" "I", Cond.fieldLink RX6 50 "GroupLogModel" "nextSector" "I", Cond.fieldLink RX6 53 "GroupLogModel" "nextSerial" "I", Cond.fieldLink RX6 56 "GroupLogModel" "recordSector" "[I", Cond.fieldLink RX6 38 "GroupLogModel" "version" "I", Cond.fieldLink RX6 41 "GroupLogModel" "firstSerial" "I", Cond.fieldLink RX6 47 "GroupLogModel" "place" "I", Cond.fieldLink RX6 139 "GroupLogModel" "headSector" "I", Cond.fieldLink RX6 59 "GroupLogModel" "recordByte" "[I", Cond.fieldLink RX6 62 "GroupLogModel" "recordSize" "[I", Cond.methodLink RX6 135 yX6_numberAt, Cond.instanceMethod yX6_numberAt, Cond.selects RX6 yX6_numberAt yX6_numberAt, Cond.initialized RX6, Cond.code yX6_numberAt cX6_numberAt 4 (some .int), Cond.fieldLink RX6 7 "GroupLogModel" "disk" "[B", Cond.methodLink RX6 71 yX6_makeHead, Cond.instanceMethod yX6_makeHead, Cond.selects RX6 yX6_makeHead yX6_makeHead, Cond.code yX6_makeHead cX6_makeHead 1 none, Cond.fieldLink RX6 65 "GroupLogModel" "sector" "[B", Cond.methodLink RX6 79 yX6_clear]
def wsX6_checkpoint_r2 : List Cond := [Cond.instanceMethod yX6_clear, Cond.selects RX6 yX6_clear yX6_clear, Cond.code yX6_clear cX6_clear 2 none, Cond.methodLink RX6 82 yX6_set, Cond.instanceMethod yX6_set, Cond.selects RX6 yX6_set yX6_set, Cond.code yX6_set cX6_set 4 none, Cond.methodLink RX6 86 yX6_headSum, Cond.static yX6_headSum, Cond.code yX6_headSum cX6_headSum 4 (some .int), Cond.methodLink RX6 75 yX6_add, Cond.static yX6_add, Cond.code yX6_add cX6_add 4 (some .int), Cond.constant RX6 74 (-306674912), Cond.methodLink RX6 128 yX6_write, Cond.instanceMethod yX6_write, Cond.selects RX6 yX6_write yX6_write, Cond.code yX6_write cX6_write 4 (some .boolean), Cond.fieldLink RX6 21 "GroupLogModel" "armed" "I", Cond.fieldLink RX6 90 "GroupLogModel" "armedPart" "I", Cond.fieldLink RX6 13 "GroupLogModel" "isTorn" "[Z", Cond.fieldLink RX6 96 "GroupLogModel" "steps" "I", Cond.methodLink RX6 93 yX6_goOff, Cond.instanceMethod yX6_goOff]
def wsX6_checkpoint_r3 : List Cond := [Cond.selects RX6 yX6_goOff yX6_goOff, Cond.code yX6_goOff cX6_goOff 1 none, Cond.fieldLink RX6 99 "GroupLogModel" "queueSize" "I", Cond.fieldLink RX6 102 "GroupLogModel" "queued" "I", Cond.fieldLink RX6 105 "GroupLogModel" "waited" "I"]
def wsX6_checkpoint : List Cond := .code yX6_checkpoint cX6_checkpoint 11 (some .int) :: ((wsX6_checkpoint_r1 ++ (wsX6_checkpoint_r2 ++ wsX6_checkpoint_r3)) ++ wsX60)
def wsX6_cut : List Cond := .code yX6_cut cX6_cut 1 (some .boolean) :: ([.fieldLink RX6 17 "GroupLogModel" "isOn" "Z", .methodLink RX6 93 yX6_goOff, .instanceMethod yX6_goOff, .selects RX6 yX6_goOff yX6_goOff, .initialized RX6, .code yX6_goOff cX6_goOff 1 none, .fieldLink RX6 21 "GroupLogModel" "armed" "I", .fieldLink RX6 99 "GroupLogModel" "queueSize" "I", .fieldLink RX6 102 "GroupLogModel" "queued" "I", .fieldLink RX6 105 "GroupLogModel" "waited" "I"] ++ wsX60)
def wsX6_arm : List Cond := .code yX6_arm cX6_arm 3 (some .boolean) :: ([.fieldLink RX6 17 "GroupLogModel" "isOn" "Z", .fieldLink RX6 21 "GroupLogModel" "armed" "I", .fieldLink RX6 90 "GroupLogModel" "armedPart" "I"] ++ wsX60)
def wsX6_isGood : List Cond := .code yX6_isGood cX6_isGood 4 (some .boolean) :: ([.fieldLink RX6 7 "GroupLogModel" "disk" "[B", .fieldLink RX6 13 "GroupLogModel" "isTorn" "[Z", .constant RX6 142 (1000000000), .methodLink RX6 135 yX6_numberAt, .instanceMethod yX6_numberAt, .selects RX6 yX6_numberAt yX6_numberAt, .initialized RX6, .code yX6_numberAt cX6_numberAt 4 (some .int), .methodLink RX6 86 yX6_headSum, .static yX6_headSum, .code yX6_headSum cX6_headSum 4 (some .int), .methodLink RX6 75 yX6_add, .static yX6_add, .code yX6_add cX6_add 4 (some .int), .constant RX6 74 (-306674912)] ++ wsX60)
def wsX6_lacks : List Cond := .code yX6_lacks cX6_lacks 1 (some .int) :: ([.fieldLink RX6 68 "GroupLogModel" "head" "[I", .fieldLink RX6 143 "GroupLogModel" "have" "I"] ++ wsX60)
def wsX6_fits : List Cond := .code yX6_fits cX6_fits 7 (some .boolean) :: ([.fieldLink RX6 7 "GroupLogModel" "disk" "[B", .fieldLink RX6 143 "GroupLogModel" "have" "I", .fieldLink RX6 68 "GroupLogModel" "head" "[I"] ++ wsX60)
def wsX6_read : List Cond := .code yX6_read cX6_read 7 none :: ([.fieldLink RX6 143 "GroupLogModel" "have" "I", .fieldLink RX6 146 "GroupLogModel" "beginSector" "I", .fieldLink RX6 149 "GroupLogModel" "beginByte" "I", .fieldLink RX6 68 "GroupLogModel" "head" "[I", .fieldLink RX6 152 "GroupLogModel" "tells" "Z", .fieldLink RX6 115 "GroupLogModel" "lastSafe" "I", .fieldLink RX6 44 "GroupLogModel" "firstRecord" "I", .fieldLink RX6 56 "GroupLogModel" "recordSector" "[I", .fieldLink RX6 59 "GroupLogModel" "recordByte" "[I", .fieldLink RX6 62 "GroupLogModel" "recordSize" "[I", .fieldLink RX6 158 "GroupLogModel" "endSector" "I", .fieldLink RX6 161 "GroupLogModel" "endSerial" "I", .methodLink RX6 155 yX6_lacks, .instanceMethod yX6_lacks, .selects RX6 yX6_lacks yX6_lacks, .initialized RX6, .code yX6_lacks cX6_lacks 1 (some .int)] ++ wsX60)
def wsX6_isLog : List Cond := .code yX6_isLog cX6_isLog 5 (some .boolean) :: ([.fieldLink RX6 13 "GroupLogModel" "isTorn" "[Z", .fieldLink RX6 7 "GroupLogModel" "disk" "[B", .methodLink RX6 135 yX6_numberAt, .instanceMethod yX6_numberAt, .selects RX6 yX6_numberAt yX6_numberAt, .initialized RX6, .code yX6_numberAt cX6_numberAt 4 (some .int), .methodLink RX6 125 yX6_logSum, .static yX6_logSum, .code yX6_logSum cX6_logSum 4 (some .int), .methodLink RX6 75 yX6_add, .static yX6_add, .code yX6_add cX6_add 4 (some .int), .constant RX6 74 (-306674912), .methodLink RX6 179 yX6_fits, .instanceMethod yX6_fits, .selects RX6 yX6_fits yX6_fits, .code yX6_fits cX6_fits 7 (some .boolean), .fieldLink RX6 143 "GroupLogModel" "have" "I", .fieldLink RX6 68 "GroupLogModel" "head" "[I"] ++ wsX60)
def wsX6_start_r1 : List Cond := [Cond.fieldLink RX6 17 "GroupLogModel" "isOn" "Z", Cond.constant RX6 167 (-2147483648), Cond.fieldLink RX6 139 "GroupLogModel" "headSector" "I", Cond.fieldLink RX6 38 "GroupLogModel" "version" "I", Cond.fieldLink RX6 41 "GroupLogModel" "firstSerial" "I", Cond.fieldLink RX6 44 "GroupLogModel" "firstRecord" "I", Cond.fieldLink RX6 7 "GroupLogModel" "disk" "[B", Cond.fieldLink RX6 47 "GroupLogModel" "place" "I", Cond.fieldLink RX6 115 "GroupLogModel" "lastSafe" "I", Cond.fieldLink RX6 143 "GroupLogModel" "have" "I", Cond.fieldLink RX6 152 "GroupLogModel" "tells" "Z", Cond.fieldLink RX6 158 "GroupLogModel" "endSector" "I", Cond.fieldLink RX6 50 "GroupLogModel" "nextSector" "I", Cond.fieldLink RX6 161 "GroupLogModel" "endSerial" "I", Cond.fieldLink RX6 53 "GroupLogModel" "nextSerial" "I", Cond.fieldLink RX6 99 "GroupLogModel" "queueSize" "I", Cond.fieldLink RX6 102 "GroupLogModel" "queued" "I", Cond.fieldLink RX6 105 "GroupLogModel" "waited" "I", Cond.fieldLink RX6 21 "GroupLogModel" "armed" "I", Cond.methodLink RX6 164 yX6_isGood, Cond.instanceMethod yX6_isGood, Cond.selects RX6 yX6_isGood yX6_isGood, Cond.initialized RX6, Cond.code yX6_isGood cX6_isGood 4 (some .boolean)]
def wsX6_start_r2 : List Cond := [Cond.fieldLink RX6 13 "GroupLogModel" "isTorn" "[Z", Cond.constant RX6 142 (1000000000), Cond.methodLink RX6 135 yX6_numberAt, Cond.instanceMethod yX6_numberAt, Cond.selects RX6 yX6_numberAt yX6_numberAt, Cond.code yX6_numberAt cX6_numberAt 4 (some .int), Cond.methodLink RX6 86 yX6_headSum, Cond.static yX6_headSum, Cond.code yX6_headSum cX6_headSum 4 (some .int), Cond.methodLink RX6 75 yX6_add, Cond.static yX6_add, Cond.code yX6_add cX6_add 4 (some .int), Cond.constant RX6 74 (-306674912), Cond.methodLink RX6 168 yX6_isLog, Cond.instanceMethod yX6_isLog, Cond.selects RX6 yX6_isLog yX6_isLog, Cond.code yX6_isLog cX6_isLog 5 (some .boolean), Cond.methodLink RX6 125 yX6_logSum, Cond.static yX6_logSum, Cond.code yX6_logSum cX6_logSum 4 (some .int), Cond.methodLink RX6 179 yX6_fits, Cond.instanceMethod yX6_fits, Cond.selects RX6 yX6_fits yX6_fits, Cond.code yX6_fits cX6_fits 7 (some .boolean)]
def wsX6_start_r3 : List Cond := [Cond.fieldLink RX6 68 "GroupLogModel" "head" "[I", Cond.methodLink RX6 172 yX6_read, Cond.instanceMethod yX6_read, Cond.selects RX6 yX6_read yX6_read, Cond.code yX6_read cX6_read 7 none, Cond.fieldLink RX6 146 "GroupLogModel" "beginSector" "I", Cond.fieldLink RX6 149 "GroupLogModel" "beginByte" "I", Cond.fieldLink RX6 56 "GroupLogModel" "recordSector" "[I", Cond.fieldLink RX6 59 "GroupLogModel" "recordByte" "[I", Cond.fieldLink RX6 62 "GroupLogModel" "recordSize" "[I", Cond.methodLink RX6 155 yX6_lacks, Cond.instanceMethod yX6_lacks, Cond.selects RX6 yX6_lacks yX6_lacks, Cond.code yX6_lacks cX6_lacks 1 (some .int), Cond.methodLink RX6 176 yX6_behind, Cond.static yX6_behind, Cond.code yX6_behind cX6_behind 1 (some .int), Cond.methodLink RX6 71 yX6_makeHead, Cond.instanceMethod yX6_makeHead, Cond.selects RX6 yX6_makeHead yX6_makeHead, Cond.code yX6_makeHead cX6_makeHead 1 none, Cond.fieldLink RX6 65 "GroupLogModel" "sector" "[B", Cond.methodLink RX6 79 yX6_clear, Cond.instanceMethod yX6_clear]
def wsX6_start_r4 : List Cond := [Cond.selects RX6 yX6_clear yX6_clear, Cond.code yX6_clear cX6_clear 2 none, Cond.methodLink RX6 82 yX6_set, Cond.instanceMethod yX6_set, Cond.selects RX6 yX6_set yX6_set, Cond.code yX6_set cX6_set 4 none, Cond.methodLink RX6 128 yX6_write, Cond.instanceMethod yX6_write, Cond.selects RX6 yX6_write yX6_write, Cond.code yX6_write cX6_write 4 (some .boolean), Cond.fieldLink RX6 90 "GroupLogModel" "armedPart" "I", Cond.fieldLink RX6 96 "GroupLogModel" "steps" "I", Cond.methodLink RX6 93 yX6_goOff, Cond.instanceMethod yX6_goOff, Cond.selects RX6 yX6_goOff yX6_goOff, Cond.code yX6_goOff cX6_goOff 1 none]
def wsX6_start : List Cond := .code yX6_start cX6_start 12 (some .int) :: ((wsX6_start_r1 ++ (wsX6_start_r2 ++ (wsX6_start_r3 ++ wsX6_start_r4))) ++ wsX60)
def wsX6_first : List Cond := .code yX6_first cX6_first 1 (some .int) :: ([.fieldLink RX6 17 "GroupLogModel" "isOn" "Z", .fieldLink RX6 44 "GroupLogModel" "firstRecord" "I"] ++ wsX60)
def wsX6_safe : List Cond := .code yX6_safe cX6_safe 1 (some .int) :: ([.fieldLink RX6 17 "GroupLogModel" "isOn" "Z", .fieldLink RX6 115 "GroupLogModel" "lastSafe" "I"] ++ wsX60)
def wsX6_size : List Cond := .code yX6_size cX6_size 2 (some .int) :: ([.fieldLink RX6 17 "GroupLogModel" "isOn" "Z", .fieldLink RX6 44 "GroupLogModel" "firstRecord" "I", .fieldLink RX6 115 "GroupLogModel" "lastSafe" "I", .fieldLink RX6 62 "GroupLogModel" "recordSize" "[I"] ++ wsX60)
def wsX6_at : List Cond := .code yX6_at cX6_at 6 (some .int) :: ([.fieldLink RX6 17 "GroupLogModel" "isOn" "Z", .fieldLink RX6 44 "GroupLogModel" "firstRecord" "I", .fieldLink RX6 56 "GroupLogModel" "recordSector" "[I", .fieldLink RX6 59 "GroupLogModel" "recordByte" "[I", .fieldLink RX6 7 "GroupLogModel" "disk" "[B", .methodLink RX6 183 yX6_size, .instanceMethod yX6_size, .selects RX6 yX6_size yX6_size, .initialized RX6, .code yX6_size cX6_size 2 (some .int), .fieldLink RX6 115 "GroupLogModel" "lastSafe" "I", .fieldLink RX6 62 "GroupLogModel" "recordSize" "[I", .methodLink RX6 176 yX6_behind, .static yX6_behind, .code yX6_behind cX6_behind 1 (some .int)] ++ wsX60)
def wsX6_isByte : List Cond := .code yX6_isByte cX6_isByte 2 (some .boolean) :: ([])
def wsX6_disk : List Cond := .code yX6_disk cX6_disk 3 (some .int) :: ([.fieldLink RX6 7 "GroupLogModel" "disk" "[B", .methodLink RX6 186 yX6_isByte, .static yX6_isByte, .initialized RX6, .code yX6_isByte cX6_isByte 2 (some .boolean)] ++ wsX60)
def wsX6_poke : List Cond := .code yX6_poke cX6_poke 4 (some .boolean) :: ([.fieldLink RX6 17 "GroupLogModel" "isOn" "Z", .fieldLink RX6 7 "GroupLogModel" "disk" "[B", .methodLink RX6 186 yX6_isByte, .static yX6_isByte, .initialized RX6, .code yX6_isByte cX6_isByte 2 (some .boolean)] ++ wsX60)
def wsX6_torn : List Cond := .code yX6_torn cX6_torn 2 (some .boolean) :: ([.fieldLink RX6 13 "GroupLogModel" "isTorn" "[Z"] ++ wsX60)
def wsX6_count : List Cond := .code yX6_count cX6_count 2 (some .int) :: ([.fieldLink RX6 17 "GroupLogModel" "isOn" "Z", .fieldLink RX6 102 "GroupLogModel" "queued" "I", .fieldLink RX6 99 "GroupLogModel" "queueSize" "I", .fieldLink RX6 50 "GroupLogModel" "nextSector" "I", .fieldLink RX6 53 "GroupLogModel" "nextSerial" "I", .fieldLink RX6 96 "GroupLogModel" "steps" "I", .fieldLink RX6 132 "GroupLogModel" "flushes" "I", .fieldLink RX6 105 "GroupLogModel" "waited" "I", .fieldLink RX6 38 "GroupLogModel" "version" "I", .methodLink RX6 111 yX6_used, .instanceMethod yX6_used, .selects RX6 yX6_used yX6_used, .initialized RX6, .code yX6_used cX6_used 1 (some .int), .fieldLink RX6 41 "GroupLogModel" "firstSerial" "I"] ++ wsX60)
def wsJ9_min_7cf53 : List Cond := .code yJ9_min_7cf53 cJ9_min_7cf53 2 (some .int) :: ([])
def wsL_law_r1 : List Cond := [Cond.classLink RL 7 RX5, Cond.instantiable RX5 10, Cond.initialized RX5, Cond.classLink RL 10 RX6, Cond.instantiable RX6 34, Cond.initialized RX6, Cond.methodLink RL 9 yX5_init, Cond.instanceMethod yX5_init, Cond.code yX5_init cX5_init 1 none, Cond.methodLink RX5 3 objectInit, Cond.instanceMethod objectInit, Cond.code objectInit ⟨#[0xb1]⟩ 1 none, Cond.classLink RX5 9 RX4, Cond.instantiable RX4 4, Cond.initialized RX4, Cond.fieldLink RX5 12 "GroupLog" "store" "LGroupLog$Store;", Cond.classLink RX5 16 RX1, Cond.instantiable RX1 4, Cond.initialized RX1, Cond.fieldLink RX5 19 "GroupLog" "queue" "LGroupLog$Queue;", Cond.classLink RX5 23 RX0, Cond.instantiable RX0 8, Cond.initialized RX0, Cond.fieldLink RX5 26 "GroupLog" "log" "LGroupLog$Log;"]
def wsL_law_r2 : List Cond := [Cond.classLink RX5 30 RX2, Cond.instantiable RX2 5, Cond.initialized RX2, Cond.fieldLink RX5 33 "GroupLog" "reader" "LGroupLog$Reader;", Cond.classLink RX5 37 RX3, Cond.instantiable RX3 2, Cond.initialized RX3, Cond.fieldLink RX5 40 "GroupLog" "draft" "LGroupLog$Sector;", Cond.arrayClass .int, Cond.fieldLink RX5 44 "GroupLog" "tape" "[I", Cond.fieldLink RX5 48 "GroupLog" "tapeBytes" "I", Cond.fieldLink RX5 52 "GroupLog" "delayTicks" "I", Cond.fieldLink RX5 55 "GroupLog" "flushes" "I", Cond.fieldLink RX5 58 "GroupLog" "on" "Z", Cond.methodLink RX5 11 yX4_init, Cond.instanceMethod yX4_init, Cond.code yX4_init cX4_init 2 none, Cond.methodLink RX4 3 objectInit, Cond.classLink RX4 9 RX3, Cond.fieldLink RX4 11 "GroupLog$Store" "sectors" "[LGroupLog$Sector;", Cond.fieldLink RX4 18 "GroupLog$Store" "steps" "I", Cond.fieldLink RX4 22 "GroupLog$Store" "stepsLeft" "I", Cond.fieldLink RX4 25 "GroupLog$Store" "part" "I", Cond.methodLink RX4 17 yX3_init]
def wsL_law_r3 : List Cond := [Cond.instanceMethod yX3_init, Cond.code yX3_init cX3_init 1 none, Cond.methodLink RX3 3 objectInit, Cond.fieldLink RX3 9 "GroupLog$Sector" "bytes" "[I", Cond.fieldLink RX3 15 "GroupLog$Sector" "isTorn" "Z", Cond.methodLink RX5 18 yX1_init, Cond.instanceMethod yX1_init, Cond.code yX1_init cX1_init 1 none, Cond.methodLink RX1 3 objectInit, Cond.fieldLink RX1 9 "GroupLog$Queue" "bytes" "[I", Cond.fieldLink RX1 15 "GroupLog$Queue" "length" "I", Cond.fieldLink RX1 19 "GroupLog$Queue" "records" "I", Cond.fieldLink RX1 22 "GroupLog$Queue" "waited" "I", Cond.methodLink RX5 25 yX0_init, Cond.instanceMethod yX0_init, Cond.code yX0_init cX0_init 1 none, Cond.methodLink RX0 3 objectInit, Cond.fieldLink RX0 9 "GroupLog$Log" "begins" "[I", Cond.methodLink RX0 15 yX0_openAt, Cond.instanceMethod yX0_openAt, Cond.selects RX0 yX0_openAt yX0_openAt, Cond.code yX0_openAt cX0_openAt 4 none, Cond.fieldLink RX0 19 "GroupLog$Log" "firstRecord" "I", Cond.fieldLink RX0 23 "GroupLog$Log" "keptFrom" "I"]
def wsL_law_r4 : List Cond := [Cond.fieldLink RX0 26 "GroupLog$Log" "lastSafe" "I", Cond.fieldLink RX0 29 "GroupLog$Log" "firstPlace" "I", Cond.fieldLink RX0 32 "GroupLog$Log" "used" "I", Cond.fieldLink RX0 35 "GroupLog$Log" "nextPlace" "I", Cond.fieldLink RX0 38 "GroupLog$Log" "nextSerial" "I", Cond.methodLink RX5 32 yX2_init, Cond.instanceMethod yX2_init, Cond.code yX2_init cX2_init 1 none, Cond.methodLink RX2 3 objectInit, Cond.fieldLink RX2 9 "GroupLog$Reader" "front" "[I", Cond.fieldLink RX2 15 "GroupLog$Reader" "have" "I", Cond.fieldLink RX2 19 "GroupLog$Reader" "beginPlace" "I", Cond.fieldLink RX2 22 "GroupLog$Reader" "beginOffset" "I", Cond.fieldLink RX2 25 "GroupLog$Reader" "ended" "Z", Cond.methodLink RX5 39 yX3_init, Cond.methodLink RX5 62 yX4_sector, Cond.instanceMethod yX4_sector, Cond.selects RX4 yX4_sector yX4_sector, Cond.code yX4_sector cX4_sector 2 (some (.object "GroupLog$Sector")), Cond.methodLink RX5 66 yX3_makeHead, Cond.instanceMethod yX3_makeHead, Cond.selects RX3 yX3_makeHead yX3_makeHead, Cond.code yX3_makeHead cX3_makeHead 5 none, Cond.methodLink RX3 36 yX3_clear]
def wsL_law_r5 : List Cond := [Cond.instanceMethod yX3_clear, Cond.selects RX3 yX3_clear yX3_clear, Cond.code yX3_clear cX3_clear 2 none, Cond.methodLink RX3 39 yX3_setNumber, Cond.instanceMethod yX3_setNumber, Cond.selects RX3 yX3_setNumber yX3_setNumber, Cond.code yX3_setNumber cX3_setNumber 3 none, Cond.methodLink RX3 19 yX3_set, Cond.instanceMethod yX3_set, Cond.selects RX3 yX3_set yX3_set, Cond.code yX3_set cX3_set 3 none, Cond.methodLink RX3 42 yX3_headSum, Cond.instanceMethod yX3_headSum, Cond.selects RX3 yX3_headSum yX3_headSum, Cond.code yX3_headSum cX3_headSum 1 (some .int), Cond.methodLink RX3 32 yX3_sumOver, Cond.instanceMethod yX3_sumOver, Cond.selects RX3 yX3_sumOver yX3_sumOver, Cond.code yX3_sumOver cX3_sumOver 7 (some .int), Cond.constant RX3 31 (-306674912), Cond.methodLink RX5 70 yX0_openAt, Cond.methodLink RL 12 yX6_init, Cond.instanceMethod yX6_init, Cond.code yX6_init cX6_init 2 none]
def wsL_law_r6 : List Cond := [Cond.methodLink RX6 1 objectInit, Cond.arrayClass .byte, Cond.fieldLink RX6 7 "GroupLogModel" "disk" "[B", Cond.arrayClass .boolean, Cond.fieldLink RX6 13 "GroupLogModel" "isTorn" "[Z", Cond.fieldLink RX6 17 "GroupLogModel" "isOn" "Z", Cond.fieldLink RX6 21 "GroupLogModel" "armed" "I", Cond.fieldLink RX6 25 "GroupLogModel" "delay" "I", Cond.fieldLink RX6 28 "GroupLogModel" "tape" "[B", Cond.fieldLink RX6 31 "GroupLogModel" "queue" "[B", Cond.fieldLink RX6 34 "GroupLogModel" "queueBegins" "[I", Cond.fieldLink RX6 38 "GroupLogModel" "version" "I", Cond.fieldLink RX6 41 "GroupLogModel" "firstSerial" "I", Cond.fieldLink RX6 44 "GroupLogModel" "firstRecord" "I", Cond.fieldLink RX6 47 "GroupLogModel" "place" "I", Cond.fieldLink RX6 50 "GroupLogModel" "nextSector" "I", Cond.fieldLink RX6 53 "GroupLogModel" "nextSerial" "I", Cond.fieldLink RX6 56 "GroupLogModel" "recordSector" "[I", Cond.fieldLink RX6 59 "GroupLogModel" "recordByte" "[I", Cond.fieldLink RX6 62 "GroupLogModel" "recordSize" "[I", Cond.fieldLink RX6 65 "GroupLogModel" "sector" "[B", Cond.fieldLink RX6 68 "GroupLogModel" "head" "[I", Cond.methodLink RX6 71 yX6_makeHead, Cond.instanceMethod yX6_makeHead]
def wsL_law_r7 : List Cond := [Cond.selects RX6 yX6_makeHead yX6_makeHead, Cond.code yX6_makeHead cX6_makeHead 1 none, Cond.methodLink RX6 79 yX6_clear, Cond.instanceMethod yX6_clear, Cond.selects RX6 yX6_clear yX6_clear, Cond.code yX6_clear cX6_clear 2 none, Cond.methodLink RX6 82 yX6_set, Cond.instanceMethod yX6_set, Cond.selects RX6 yX6_set yX6_set, Cond.code yX6_set cX6_set 4 none, Cond.methodLink RX6 86 yX6_headSum, Cond.static yX6_headSum, Cond.code yX6_headSum cX6_headSum 4 (some .int), Cond.methodLink RX6 75 yX6_add, Cond.static yX6_add, Cond.code yX6_add cX6_add 4 (some .int), Cond.constant RX6 74 (-306674912), Cond.methodLink RL 13 yX5_delay, Cond.instanceMethod yX5_delay, Cond.selects RX5 yX5_delay yX5_delay, Cond.code yX5_delay cX5_delay 2 (some .boolean), Cond.methodLink RX5 74 yX5_isTicks, Cond.static yX5_isTicks, Cond.code yX5_isTicks cX5_isTicks 1 (some .boolean)]
def wsL_law_r8 : List Cond := [Cond.methodLink RL 17 yX6_delay, Cond.instanceMethod yX6_delay, Cond.selects RX6 yX6_delay yX6_delay, Cond.code yX6_delay cX6_delay 2 (some .boolean), Cond.methodLink RL 18 yX5_feed, Cond.instanceMethod yX5_feed, Cond.selects RX5 yX5_feed yX5_feed, Cond.code yX5_feed cX5_feed 2 (some .boolean), Cond.methodLink RL 21 yX6_feed, Cond.instanceMethod yX6_feed, Cond.selects RX6 yX6_feed yX6_feed, Cond.code yX6_feed cX6_feed 2 (some .boolean), Cond.fieldLink RX6 108 "GroupLogModel" "tapeSize" "I", Cond.methodLink RL 22 yX5_append, Cond.instanceMethod yX5_append, Cond.selects RX5 yX5_append yX5_append, Cond.code yX5_append cX5_append 2 (some .int), Cond.methodLink RX5 78 yX1_sectorsWith, Cond.instanceMethod yX1_sectorsWith, Cond.selects RX1 yX1_sectorsWith yX1_sectorsWith, Cond.code yX1_sectorsWith cX1_sectorsWith 2 (some .int), Cond.methodLink RX5 91 yX1_add, Cond.instanceMethod yX1_add, Cond.selects RX1 yX1_add yX1_add]
def wsL_law_r9 : List Cond := [Cond.code yX1_add cX1_add 5 none, Cond.methodLink RX1 25 yX1_put, Cond.instanceMethod yX1_put, Cond.selects RX1 yX1_put yX1_put, Cond.code yX1_put cX1_put 2 none, Cond.methodLink RX5 98 yX5_writeQueue, Cond.instanceMethod yX5_writeQueue, Cond.selects RX5 yX5_writeQueue yX5_writeQueue, Cond.code yX5_writeQueue cX5_writeQueue 6 (some .int), Cond.methodLink RX5 190 yX4_headVersion, Cond.instanceMethod yX4_headVersion, Cond.selects RX4 yX4_headVersion yX4_headVersion, Cond.code yX4_headVersion cX4_headVersion 2 (some .int), Cond.methodLink RX4 52 yX4_latestHead, Cond.instanceMethod yX4_latestHead, Cond.selects RX4 yX4_latestHead yX4_latestHead, Cond.code yX4_latestHead cX4_latestHead 3 (some .int), Cond.methodLink RX4 28 yX4_sector, Cond.methodLink RX4 40 yX3_isGoodHead, Cond.instanceMethod yX3_isGoodHead, Cond.selects RX3 yX3_isGoodHead yX3_isGoodHead, Cond.code yX3_isGoodHead cX3_isGoodHead 1 (some .boolean), Cond.constant RX3 55 (1000000000), Cond.methodLink RX3 46 yX3_number]
def wsL_law_r10 : List Cond := [Cond.instanceMethod yX3_number, Cond.selects RX3 yX3_number yX3_number, Cond.code yX3_number cX3_number 2 (some .int), Cond.methodLink RX3 49 yX3_headVersion, Cond.instanceMethod yX3_headVersion, Cond.selects RX3 yX3_headVersion yX3_headVersion, Cond.code yX3_headVersion cX3_headVersion 1 (some .int), Cond.methodLink RX3 52 yX3_headRecord, Cond.instanceMethod yX3_headRecord, Cond.selects RX3 yX3_headRecord yX3_headRecord, Cond.code yX3_headRecord cX3_headRecord 1 (some .int), Cond.methodLink RX3 56 yX3_headPlace, Cond.instanceMethod yX3_headPlace, Cond.selects RX3 yX3_headPlace yX3_headPlace, Cond.code yX3_headPlace cX3_headPlace 1 (some .int), Cond.methodLink RX3 27 yX3_get, Cond.instanceMethod yX3_get, Cond.selects RX3 yX3_get yX3_get, Cond.code yX3_get cX3_get 2 (some .int), Cond.methodLink RX4 44 yX3_headVersion, Cond.static yX5_isBelow, Cond.code yX5_isBelow cX5_isBelow 2 (some .boolean), Cond.constantLong RX5 193 (4294967295), Cond.methodLink RX5 211 yX1_fill]
def wsL_law_r11 : List Cond := [Cond.instanceMethod yX1_fill, Cond.selects RX1 yX1_fill yX1_fill, Cond.code yX1_fill cX1_fill 7 none, Cond.methodLink RX1 36 Lib.Math.min.name, Cond.static Lib.Math.min.name, Cond.initialized "java/lang/Math", Cond.code Lib.Math.min.name Lib.Math.min.code 2 (some .int), Cond.methodLink RX1 42 yX1_firstBeginFrom, Cond.instanceMethod yX1_firstBeginFrom, Cond.selects RX1 yX1_firstBeginFrom yX1_firstBeginFrom, Cond.code yX1_firstBeginFrom cX1_firstBeginFrom 4 (some .int), Cond.methodLink RX1 33 yX1_behindRecordAt, Cond.instanceMethod yX1_behindRecordAt, Cond.selects RX1 yX1_behindRecordAt yX1_behindRecordAt, Cond.code yX1_behindRecordAt cX1_behindRecordAt 2 (some .int), Cond.methodLink RX1 29 yX1_get, Cond.instanceMethod yX1_get, Cond.selects RX1 yX1_get yX1_get, Cond.code yX1_get cX1_get 2 (some .int), Cond.methodLink RX1 45 yX3_clear, Cond.methodLink RX1 50 yX3_set, Cond.methodLink RX5 215 yX3_sealLog, Cond.instanceMethod yX3_sealLog, Cond.selects RX3 yX3_sealLog yX3_sealLog]
def wsL_law_r12 : List Cond := [Cond.code yX3_sealLog cX3_sealLog 3 none, Cond.methodLink RX3 59 yX3_logSum, Cond.instanceMethod yX3_logSum, Cond.selects RX3 yX3_logSum yX3_logSum, Cond.code yX3_logSum cX3_logSum 1 (some .int), Cond.methodLink RX5 208 yX5_writeDraft, Cond.instanceMethod yX5_writeDraft, Cond.selects RX5 yX5_writeDraft yX5_writeDraft, Cond.code yX5_writeDraft cX5_writeDraft 3 (some .boolean), Cond.methodLink RX5 204 yX4_write, Cond.instanceMethod yX4_write, Cond.selects RX4 yX4_write yX4_write, Cond.code yX4_write cX4_write 3 (some .boolean), Cond.methodLink RX4 32 yX3_takePart, Cond.instanceMethod yX3_takePart, Cond.selects RX3 yX3_takePart yX3_takePart, Cond.code yX3_takePart cX3_takePart 3 none, Cond.methodLink RX3 23 yX3_takeBytes, Cond.instanceMethod yX3_takeBytes, Cond.selects RX3 yX3_takeBytes yX3_takeBytes, Cond.code yX3_takeBytes cX3_takeBytes 4 none, Cond.methodLink RX4 36 yX3_takeWhole, Cond.instanceMethod yX3_takeWhole, Cond.selects RX3 yX3_takeWhole yX3_takeWhole]
def wsL_law_r13 : List Cond := [Cond.code yX3_takeWhole cX3_takeWhole 2 none, Cond.methodLink RX5 128 yX5_powerGoes, Cond.instanceMethod yX5_powerGoes, Cond.selects RX5 yX5_powerGoes yX5_powerGoes, Cond.code yX5_powerGoes cX5_powerGoes 1 none, Cond.methodLink RX5 201 yX1_empty, Cond.instanceMethod yX1_empty, Cond.selects RX1 yX1_empty yX1_empty, Cond.code yX1_empty cX1_empty 1 none, Cond.methodLink RX5 218 yX0_advance, Cond.instanceMethod yX0_advance, Cond.selects RX0 yX0_advance yX0_advance, Cond.code yX0_advance cX0_advance 2 none, Cond.static yX5_placeBehind, Cond.code yX5_placeBehind cX5_placeBehind 2 (some .int), Cond.methodLink RX5 195 yJ9_floorMod_7cf53, Cond.static yJ9_floorMod_7cf53, Cond.initialized RJ9, Cond.code yJ9_floorMod_7cf53 cJ9_floorMod_7cf53 3 (some .int), Cond.methodLink RX5 222 yX1_tellTo, Cond.instanceMethod yX1_tellTo, Cond.selects RX1 yX1_tellTo yX1_tellTo, Cond.code yX1_tellTo cX1_tellTo 5 none, Cond.methodLink RX1 57 yX0_addSafe]
def wsL_law_r14 : List Cond := [Cond.instanceMethod yX0_addSafe, Cond.selects RX0 yX0_addSafe yX0_addSafe, Cond.code yX0_addSafe cX0_addSafe 3 none, Cond.methodLink RX0 45 yX0_slotOf, Cond.static yX0_slotOf, Cond.code yX0_slotOf cX0_slotOf 1 (some .int), Cond.methodLink RL 26 yX6_append, Cond.instanceMethod yX6_append, Cond.selects RX6 yX6_append yX6_append, Cond.code yX6_append cX6_append 3 (some .int), Cond.fieldLink RX6 99 "GroupLogModel" "queueSize" "I", Cond.fieldLink RX6 115 "GroupLogModel" "lastSafe" "I", Cond.fieldLink RX6 102 "GroupLogModel" "queued" "I", Cond.fieldLink RX6 105 "GroupLogModel" "waited" "I", Cond.methodLink RX6 111 yX6_used, Cond.instanceMethod yX6_used, Cond.selects RX6 yX6_used yX6_used, Cond.code yX6_used cX6_used 1 (some .int), Cond.methodLink RX6 118 yX6_put, Cond.instanceMethod yX6_put, Cond.selects RX6 yX6_put yX6_put, Cond.code yX6_put cX6_put 2 none, Cond.methodLink RX6 122 yX6_flushAll, Cond.instanceMethod yX6_flushAll]
def wsL_law_r15 : List Cond := [Cond.selects RX6 yX6_flushAll yX6_flushAll, Cond.code yX6_flushAll cX6_flushAll 7 (some .int), Cond.fieldLink RX6 132 "GroupLogModel" "flushes" "I", Cond.methodLink RX6 125 yX6_logSum, Cond.static yX6_logSum, Cond.code yX6_logSum cX6_logSum 4 (some .int), Cond.methodLink RX6 128 yX6_write, Cond.instanceMethod yX6_write, Cond.selects RX6 yX6_write yX6_write, Cond.code yX6_write cX6_write 4 (some .boolean), Cond.fieldLink RX6 90 "GroupLogModel" "armedPart" "I", Cond.fieldLink RX6 96 "GroupLogModel" "steps" "I", Cond.methodLink RX6 93 yX6_goOff, Cond.instanceMethod yX6_goOff, Cond.selects RX6 yX6_goOff yX6_goOff, Cond.code yX6_goOff cX6_goOff 1 none, Cond.methodLink RL 27 yX5_flush, Cond.instanceMethod yX5_flush, Cond.selects RX5 yX5_flush yX5_flush, Cond.code yX5_flush cX5_flush 1 (some .int), Cond.methodLink RL 30 yX6_flush, Cond.instanceMethod yX6_flush, Cond.selects RX6 yX6_flush yX6_flush, Cond.code yX6_flush cX6_flush 1 (some .int)]
def wsL_law_r16 : List Cond := [Cond.methodLink RL 31 yX5_tick, Cond.instanceMethod yX5_tick, Cond.selects RX5 yX5_tick yX5_tick, Cond.code yX5_tick cX5_tick 2 (some .int), Cond.methodLink RL 35 yX6_tick, Cond.instanceMethod yX6_tick, Cond.selects RX6 yX6_tick yX6_tick, Cond.code yX6_tick cX6_tick 4 (some .int), Cond.methodLink RL 36 yX5_checkpoint, Cond.instanceMethod yX5_checkpoint, Cond.selects RX5 yX5_checkpoint yX5_checkpoint, Cond.code yX5_checkpoint cX5_checkpoint 5 (some .int), Cond.methodLink RX5 108 yX0_placeOf, Cond.instanceMethod yX0_placeOf, Cond.selects RX0 yX0_placeOf yX0_placeOf, Cond.code yX0_placeOf cX0_placeOf 2 (some .int), Cond.methodLink RX0 49 yX0_beginOf, Cond.instanceMethod yX0_beginOf, Cond.selects RX0 yX0_beginOf yX0_beginOf, Cond.code yX0_beginOf cX0_beginOf 2 (some .int), Cond.methodLink RX5 111 yX0_firstBeginningWith, Cond.instanceMethod yX0_firstBeginningWith, Cond.selects RX0 yX0_firstBeginningWith yX0_firstBeginningWith, Cond.code yX0_firstBeginningWith cX0_firstBeginningWith 4 (some .int)]
def wsL_law_r17 : List Cond := [Cond.methodLink RX0 52 yX0_has, Cond.instanceMethod yX0_has, Cond.selects RX0 yX0_has yX0_has, Cond.code yX0_has cX0_has 2 (some .boolean), Cond.methodLink RX0 56 yX0_placeOf, Cond.methodLink RX5 117 yX3_serial, Cond.instanceMethod yX3_serial, Cond.selects RX3 yX3_serial yX3_serial, Cond.code yX3_serial cX3_serial 1 (some .int), Cond.methodLink RX5 120 yX5_writeHead, Cond.instanceMethod yX5_writeHead, Cond.selects RX5 yX5_writeHead yX5_writeHead, Cond.code yX5_writeHead cX5_writeHead 6 (some .boolean), Cond.methodLink RX5 137 yX4_latestHead, Cond.methodLink RX5 124 yX0_giveUpBefore, Cond.instanceMethod yX0_giveUpBefore, Cond.selects RX0 yX0_giveUpBefore yX0_giveUpBefore, Cond.code yX0_giveUpBefore cX0_giveUpBefore 5 (some .int), Cond.methodLink RX0 59 yJ9_floorMod_7cf53, Cond.methodLink RL 39 yX6_checkpoint, Cond.instanceMethod yX6_checkpoint, Cond.selects RX6 yX6_checkpoint yX6_checkpoint, Cond.code yX6_checkpoint cX6_checkpoint 11 (some .int), Cond.fieldLink RX6 139 "GroupLogModel" "headSector" "I"]
def wsL_law_r18 : List Cond := [Cond.methodLink RX6 135 yX6_numberAt, Cond.instanceMethod yX6_numberAt, Cond.selects RX6 yX6_numberAt yX6_numberAt, Cond.code yX6_numberAt cX6_numberAt 4 (some .int), Cond.methodLink RL 40 yX5_cut, Cond.instanceMethod yX5_cut, Cond.selects RX5 yX5_cut yX5_cut, Cond.code yX5_cut cX5_cut 1 (some .boolean), Cond.methodLink RL 44 yX6_cut, Cond.instanceMethod yX6_cut, Cond.selects RX6 yX6_cut yX6_cut, Cond.code yX6_cut cX6_cut 1 (some .boolean), Cond.methodLink RL 45 yX5_arm, Cond.instanceMethod yX5_arm, Cond.selects RX5 yX5_arm yX5_arm, Cond.code yX5_arm cX5_arm 3 (some .boolean), Cond.methodLink RL 49 yX6_arm, Cond.instanceMethod yX6_arm, Cond.selects RX6 yX6_arm yX6_arm, Cond.code yX6_arm cX6_arm 3 (some .boolean), Cond.methodLink RL 50 yX5_start, Cond.instanceMethod yX5_start, Cond.selects RX5 yX5_start yX5_start, Cond.code yX5_start cX5_start 4 (some .int)]
def wsL_law_r19 : List Cond := [Cond.methodLink RX5 140 yX3_headPlace, Cond.methodLink RX5 143 yX3_headSerial, Cond.instanceMethod yX3_headSerial, Cond.selects RX3 yX3_headSerial yX3_headSerial, Cond.code yX3_headSerial cX3_headSerial 1 (some .int), Cond.methodLink RX5 146 yX3_headRecord, Cond.methodLink RX5 149 yX2_readInto, Cond.instanceMethod yX2_readInto, Cond.selects RX2 yX2_readInto yX2_readInto, Cond.code yX2_readInto cX2_readInto 9 none, Cond.methodLink RX2 37 yX4_sector, Cond.methodLink RX2 43 yX3_isSoundLog, Cond.instanceMethod yX3_isSoundLog, Cond.selects RX3 yX3_isSoundLog yX3_isSoundLog, Cond.code yX3_isSoundLog cX3_isSoundLog 1 (some .boolean), Cond.methodLink RX3 62 yX3_logBytes, Cond.instanceMethod yX3_logBytes, Cond.selects RX3 yX3_logBytes yX3_logBytes, Cond.code yX3_logBytes cX3_logBytes 1 (some .int), Cond.methodLink RX2 49 yX3_serial, Cond.methodLink RX2 53 yX3_logVersion, Cond.instanceMethod yX3_logVersion, Cond.selects RX3 yX3_logVersion yX3_logVersion, Cond.code yX3_logVersion cX3_logVersion 1 (some .int)]
def wsL_law_r20 : List Cond := [Cond.methodLink RX2 60 yX2_fits, Cond.instanceMethod yX2_fits, Cond.selects RX2 yX2_fits yX2_fits, Cond.code yX2_fits cX2_fits 5 (some .boolean), Cond.methodLink RX2 79 yX3_logBegin, Cond.instanceMethod yX3_logBegin, Cond.selects RX3 yX3_logBegin yX3_logBegin, Cond.code yX3_logBegin cX3_logBegin 1 (some .int), Cond.methodLink RX2 82 yX3_logBytes, Cond.methodLink RX2 85 yX2_lackingBefore, Cond.instanceMethod yX2_lackingBefore, Cond.selects RX2 yX2_lackingBefore yX2_lackingBefore, Cond.code yX2_lackingBefore cX2_lackingBefore 4 (some .int), Cond.methodLink RX2 89 yX3_logByte, Cond.instanceMethod yX3_logByte, Cond.selects RX3 yX3_logByte yX3_logByte, Cond.code yX3_logByte cX3_logByte 2 (some .int), Cond.methodLink RX2 64 yX2_takeRecords, Cond.instanceMethod yX2_takeRecords, Cond.selects RX2 yX2_takeRecords yX2_takeRecords, Cond.code yX2_takeRecords cX2_takeRecords 8 (some .boolean), Cond.methodLink RX2 96 yX2_takeByte, Cond.instanceMethod yX2_takeByte, Cond.selects RX2 yX2_takeByte yX2_takeByte]
def wsL_law_r21 : List Cond := [Cond.code yX2_takeByte cX2_takeByte 5 none, Cond.methodLink RX2 100 yX2_isNext, Cond.instanceMethod yX2_isNext, Cond.selects RX2 yX2_isNext yX2_isNext, Cond.code yX2_isNext cX2_isNext 3 (some .boolean), Cond.methodLink RX2 104 yX2_frontBytes, Cond.instanceMethod yX2_frontBytes, Cond.selects RX2 yX2_frontBytes yX2_frontBytes, Cond.code yX2_frontBytes cX2_frontBytes 1 (some .int), Cond.methodLink RX2 107 yX0_addSafe, Cond.methodLink RX2 71 yX0_advance, Cond.methodLink RL 53 yX6_start, Cond.instanceMethod yX6_start, Cond.selects RX6 yX6_start yX6_start, Cond.code yX6_start cX6_start 12 (some .int), Cond.constant RX6 167 (-2147483648), Cond.fieldLink RX6 143 "GroupLogModel" "have" "I", Cond.fieldLink RX6 152 "GroupLogModel" "tells" "Z", Cond.fieldLink RX6 158 "GroupLogModel" "endSector" "I", Cond.fieldLink RX6 161 "GroupLogModel" "endSerial" "I", Cond.methodLink RX6 164 yX6_isGood, Cond.instanceMethod yX6_isGood, Cond.selects RX6 yX6_isGood yX6_isGood, Cond.code yX6_isGood cX6_isGood 4 (some .boolean)]
def wsL_law_r22 : List Cond := [Cond.constant RX6 142 (1000000000), Cond.methodLink RX6 168 yX6_isLog, Cond.instanceMethod yX6_isLog, Cond.selects RX6 yX6_isLog yX6_isLog, Cond.code yX6_isLog cX6_isLog 5 (some .boolean), Cond.methodLink RX6 179 yX6_fits, Cond.instanceMethod yX6_fits, Cond.selects RX6 yX6_fits yX6_fits, Cond.code yX6_fits cX6_fits 7 (some .boolean), Cond.methodLink RX6 172 yX6_read, Cond.instanceMethod yX6_read, Cond.selects RX6 yX6_read yX6_read, Cond.code yX6_read cX6_read 7 none, Cond.fieldLink RX6 146 "GroupLogModel" "beginSector" "I", Cond.fieldLink RX6 149 "GroupLogModel" "beginByte" "I", Cond.methodLink RX6 155 yX6_lacks, Cond.instanceMethod yX6_lacks, Cond.selects RX6 yX6_lacks yX6_lacks, Cond.code yX6_lacks cX6_lacks 1 (some .int), Cond.methodLink RX6 176 yX6_behind, Cond.static yX6_behind, Cond.code yX6_behind cX6_behind 1 (some .int), Cond.methodLink RL 54 yX5_first, Cond.instanceMethod yX5_first]
def wsL_law_r23 : List Cond := [Cond.selects RX5 yX5_first yX5_first, Cond.code yX5_first cX5_first 1 (some .int), Cond.methodLink RL 57 yX6_first, Cond.instanceMethod yX6_first, Cond.selects RX6 yX6_first yX6_first, Cond.code yX6_first cX6_first 1 (some .int), Cond.methodLink RL 58 yX5_safe, Cond.instanceMethod yX5_safe, Cond.selects RX5 yX5_safe yX5_safe, Cond.code yX5_safe cX5_safe 1 (some .int), Cond.methodLink RL 61 yX6_safe, Cond.instanceMethod yX6_safe, Cond.selects RX6 yX6_safe yX6_safe, Cond.code yX6_safe cX6_safe 1 (some .int), Cond.methodLink RL 62 yX5_size, Cond.instanceMethod yX5_size, Cond.selects RX5 yX5_size yX5_size, Cond.code yX5_size cX5_size 2 (some .int), Cond.methodLink RX5 156 yX0_has, Cond.methodLink RX5 159 yX0_dataBytes, Cond.instanceMethod yX0_dataBytes, Cond.selects RX0 yX0_dataBytes yX0_dataBytes, Cond.code yX0_dataBytes cX0_dataBytes 3 (some .int), Cond.methodLink RX0 64 yX0_byteOf]
def wsL_law_r24 : List Cond := [Cond.instanceMethod yX0_byteOf, Cond.selects RX0 yX0_byteOf yX0_byteOf, Cond.code yX0_byteOf cX0_byteOf 8 (some .int), Cond.methodLink RX0 68 yX4_sector, Cond.methodLink RX0 74 yX3_logBytes, Cond.methodLink RX0 80 yX3_logByte, Cond.methodLink RL 65 yX6_size, Cond.instanceMethod yX6_size, Cond.selects RX6 yX6_size yX6_size, Cond.code yX6_size cX6_size 2 (some .int), Cond.methodLink RL 66 yX5_at, Cond.instanceMethod yX5_at, Cond.selects RX5 yX5_at yX5_at, Cond.code yX5_at cX5_at 3 (some .int), Cond.methodLink RX5 163 yX0_byteOf, Cond.methodLink RL 70 yX6_at, Cond.instanceMethod yX6_at, Cond.selects RX6 yX6_at yX6_at, Cond.code yX6_at cX6_at 6 (some .int), Cond.methodLink RX6 183 yX6_size, Cond.methodLink RL 71 yX5_disk, Cond.instanceMethod yX5_disk, Cond.selects RX5 yX5_disk yX5_disk, Cond.code yX5_disk cX5_disk 3 (some .int)]
def wsL_law_r25 : List Cond := [Cond.methodLink RX5 167 yX5_isByte, Cond.static yX5_isByte, Cond.code yX5_isByte cX5_isByte 2 (some .boolean), Cond.methodLink RX5 171 yX3_get, Cond.methodLink RL 74 yX6_disk, Cond.instanceMethod yX6_disk, Cond.selects RX6 yX6_disk yX6_disk, Cond.code yX6_disk cX6_disk 3 (some .int), Cond.methodLink RX6 186 yX6_isByte, Cond.static yX6_isByte, Cond.code yX6_isByte cX6_isByte 2 (some .boolean), Cond.methodLink RL 75 yX5_poke, Cond.instanceMethod yX5_poke, Cond.selects RX5 yX5_poke yX5_poke, Cond.code yX5_poke cX5_poke 5 (some .boolean), Cond.methodLink RX5 174 yX3_set, Cond.methodLink RL 79 yX6_poke, Cond.instanceMethod yX6_poke, Cond.selects RX6 yX6_poke yX6_poke, Cond.code yX6_poke cX6_poke 4 (some .boolean), Cond.methodLink RL 80 yX5_torn, Cond.instanceMethod yX5_torn, Cond.selects RX5 yX5_torn yX5_torn, Cond.code yX5_torn cX5_torn 2 (some .boolean)]
def wsL_law_r26 : List Cond := [Cond.methodLink RL 83 yX6_torn, Cond.instanceMethod yX6_torn, Cond.selects RX6 yX6_torn yX6_torn, Cond.code yX6_torn cX6_torn 2 (some .boolean), Cond.methodLink RL 84 yX5_count, Cond.instanceMethod yX5_count, Cond.selects RX5 yX5_count yX5_count, Cond.code yX5_count cX5_count 2 (some .int), Cond.methodLink RX5 184 yX5_countWhileOn, Cond.instanceMethod yX5_countWhileOn, Cond.selects RX5 yX5_countWhileOn yX5_countWhileOn, Cond.code yX5_countWhileOn cX5_countWhileOn 2 (some .int), Cond.methodLink RL 87 yX6_count, Cond.instanceMethod yX6_count, Cond.selects RX6 yX6_count yX6_count, Cond.code yX6_count cX6_count 2 (some .int)]
def wsL_law : List Cond := (wsL_law_r1 ++ (wsL_law_r2 ++ (wsL_law_r3 ++ (wsL_law_r4 ++ (wsL_law_r5 ++ (wsL_law_r6 ++ (wsL_law_r7 ++ (wsL_law_r8 ++ (wsL_law_r9 ++ (wsL_law_r10 ++ (wsL_law_r11 ++ (wsL_law_r12 ++ (wsL_law_r13 ++ (wsL_law_r14 ++ (wsL_law_r15 ++ (wsL_law_r16 ++ (wsL_law_r17 ++ (wsL_law_r18 ++ (wsL_law_r19 ++ (wsL_law_r20 ++ (wsL_law_r21 ++ (wsL_law_r22 ++ (wsL_law_r23 ++ (wsL_law_r24 ++ (wsL_law_r25 ++ wsL_law_r26))))))))))))))))))))))))) ++ wsX50 ++ wsX60 ++ wsX40 ++ wsX10 ++ wsX00 ++ wsX20 ++ wsX30 ++ ([] : List Cond)
abbrev vwCl : List vw_C := [(RX0, TX0, 8), (RX1, TX1, 4), (RX2, TX2, 5), (RX3, TX3, 2), (RX4, TX4, 4), (RX5, TX5, 10), (RX6, TX6, 34)]
end
section
set_option maxRecDepth 20000 in
theorem ggX0_init_X0_openAt : GoodIn wsX0_init wsX0_openAt := goodIn_r _ [10, 11, 12, 13, 14, 15, 16, 17, 18, 19, 20, 21, 22, 23, 24, 25] (by decide +kernel) (by decide +kernel)
set_option maxRecDepth 20000 in
theorem gX0_init_X0_openAt : GoodIn wsX0_init (wsV RX0 15 RX0 yX0_openAt wsX0_openAt) := goodIn_app (goodIn_of _ (by decide +kernel)) ggX0_init_X0_openAt
set_option maxRecDepth 20000 in
theorem ggX0_firstBeginningWith_X0_has : GoodIn wsX0_firstBeginningWith wsX0_has := goodIn_r _ [5, 6, 7, 21, 22, 23, 24, 25, 26, 27, 28] (by decide +kernel) (by decide +kernel)
set_option maxRecDepth 20000 in
theorem gX0_firstBeginningWith_X0_has : GoodIn wsX0_firstBeginningWith (wsV RX0 52 RX0 yX0_has wsX0_has) := goodIn_app (goodIn_of _ (by decide +kernel)) ggX0_firstBeginningWith_X0_has
set_option maxRecDepth 20000 in
theorem ggX3_setNumber_X3_set : GoodIn wsX3_setNumber wsX3_set := goodIn_r _ [5, 6, 7, 8] (by decide +kernel) (by decide +kernel)
set_option maxRecDepth 20000 in
theorem gX3_setNumber_X3_set : GoodIn wsX3_setNumber (wsV RX3 19 RX3 yX3_set wsX3_set) := goodIn_app (goodIn_of _ (by decide +kernel)) ggX3_setNumber_X3_set
set_option maxRecDepth 20000 in
theorem ggX3_takeWhole_X3_takeBytes : GoodIn wsX3_takeWhole wsX3_takeBytes := goodIn_r _ [6, 7, 8, 9, 5, 10, 11, 12, 13, 14, 15, 16, 17] (by decide +kernel) (by decide +kernel)
set_option maxRecDepth 20000 in
theorem gX3_takeWhole_X3_takeBytes : GoodIn wsX3_takeWhole (wsV RX3 23 RX3 yX3_takeBytes wsX3_takeBytes) := goodIn_app (goodIn_of _ (by decide +kernel)) ggX3_takeWhole_X3_takeBytes
set_option maxRecDepth 20000 in
theorem ggX3_takeBytes_X3_get : GoodIn wsX3_takeBytes wsX3_get := goodIn_r _ [5, 6, 11, 12] (by decide +kernel) (by decide +kernel)
set_option maxRecDepth 20000 in
theorem gX3_takeBytes_X3_get : GoodIn wsX3_takeBytes (wsV RX3 27 RX3 yX3_get wsX3_get) := goodIn_app (goodIn_of _ (by decide +kernel)) ggX3_takeBytes_X3_get
set_option maxRecDepth 20000 in
theorem ggX3_takeBytes_X3_set : GoodIn wsX3_takeBytes wsX3_set := goodIn_r _ [10, 6, 11, 12] (by decide +kernel) (by decide +kernel)
set_option maxRecDepth 20000 in
theorem gX3_takeBytes_X3_set : GoodIn wsX3_takeBytes (wsV RX3 19 RX3 yX3_set wsX3_set) := goodIn_app (goodIn_of _ (by decide +kernel)) ggX3_takeBytes_X3_set
set_option maxRecDepth 20000 in
theorem ggX3_headSum_X3_sumOver : GoodIn wsX3_headSum wsX3_sumOver := goodIn_r _ [5, 6, 7, 8, 9] (by decide +kernel) (by decide +kernel)
set_option maxRecDepth 20000 in
theorem gX3_headSum_X3_sumOver : GoodIn wsX3_headSum (wsV RX3 32 RX3 yX3_sumOver wsX3_sumOver) := goodIn_app (goodIn_of _ (by decide +kernel)) ggX3_headSum_X3_sumOver
set_option maxRecDepth 20000 in
theorem ggX3_makeHead_X3_clear : GoodIn wsX3_makeHead wsX3_clear := goodIn_r _ [5, 6, 24, 25] (by decide +kernel) (by decide +kernel)
set_option maxRecDepth 20000 in
theorem gX3_makeHead_X3_clear : GoodIn wsX3_makeHead (wsV RX3 36 RX3 yX3_clear wsX3_clear) := goodIn_app (goodIn_of _ (by decide +kernel)) ggX3_makeHead_X3_clear
set_option maxRecDepth 20000 in
theorem ggX3_makeHead_X3_setNumber : GoodIn wsX3_makeHead wsX3_setNumber := goodIn_r _ [10, 11, 12, 13, 4, 14, 6, 24, 25] (by decide +kernel) (by decide +kernel)
set_option maxRecDepth 20000 in
theorem gX3_makeHead_X3_setNumber : GoodIn wsX3_makeHead (wsV RX3 39 RX3 yX3_setNumber wsX3_setNumber) := goodIn_app (goodIn_of _ (by decide +kernel)) ggX3_makeHead_X3_setNumber
set_option maxRecDepth 20000 in
theorem ggX3_makeHead_X3_set : GoodIn wsX3_makeHead wsX3_set := goodIn_r _ [14, 6, 24, 25] (by decide +kernel) (by decide +kernel)
set_option maxRecDepth 20000 in
theorem gX3_makeHead_X3_set : GoodIn wsX3_makeHead (wsV RX3 19 RX3 yX3_set wsX3_set) := goodIn_app (goodIn_of _ (by decide +kernel)) ggX3_makeHead_X3_set
set_option maxRecDepth 20000 in
theorem ggX3_makeHead_X3_headSum : GoodIn wsX3_makeHead wsX3_headSum := goodIn_r _ [18, 19, 20, 21, 4, 22, 6, 23, 24, 25] (by decide +kernel) (by decide +kernel)
set_option maxRecDepth 20000 in
theorem gX3_makeHead_X3_headSum : GoodIn wsX3_makeHead (wsV RX3 42 RX3 yX3_headSum wsX3_headSum) := goodIn_app (goodIn_of _ (by decide +kernel)) ggX3_makeHead_X3_headSum
set_option maxRecDepth 20000 in
theorem ggX3_isGoodHead_X3_number : GoodIn wsX3_isGoodHead wsX3_number := goodIn_r _ [7, 8, 34, 35] (by decide +kernel) (by decide +kernel)
set_option maxRecDepth 20000 in
theorem gX3_isGoodHead_X3_number : GoodIn wsX3_isGoodHead (wsV RX3 46 RX3 yX3_number wsX3_number) := goodIn_app (goodIn_of _ (by decide +kernel)) ggX3_isGoodHead_X3_number
set_option maxRecDepth 20000 in
theorem ggX3_isGoodHead_X3_headSum : GoodIn wsX3_isGoodHead wsX3_headSum := goodIn_r _ [12, 13, 14, 15, 6, 16, 8, 17, 34, 35] (by decide +kernel) (by decide +kernel)
set_option maxRecDepth 20000 in
theorem gX3_isGoodHead_X3_headSum : GoodIn wsX3_isGoodHead (wsV RX3 42 RX3 yX3_headSum wsX3_headSum) := goodIn_app (goodIn_of _ (by decide +kernel)) ggX3_isGoodHead_X3_headSum
set_option maxRecDepth 20000 in
theorem ggX3_isGoodHead_X3_headVersion : GoodIn wsX3_isGoodHead wsX3_headVersion := goodIn_r _ [21, 3, 4, 5, 6, 7, 8, 34, 35] (by decide +kernel) (by decide +kernel)
set_option maxRecDepth 20000 in
theorem gX3_isGoodHead_X3_headVersion : GoodIn wsX3_isGoodHead (wsV RX3 49 RX3 yX3_headVersion wsX3_headVersion) := goodIn_app (goodIn_of _ (by decide +kernel)) ggX3_isGoodHead_X3_headVersion
set_option maxRecDepth 20000 in
theorem ggX3_isGoodHead_X3_headRecord : GoodIn wsX3_isGoodHead wsX3_headRecord := goodIn_r _ [25, 3, 4, 5, 6, 7, 8, 34, 35] (by decide +kernel) (by decide +kernel)
set_option maxRecDepth 20000 in
theorem gX3_isGoodHead_X3_headRecord : GoodIn wsX3_isGoodHead (wsV RX3 52 RX3 yX3_headRecord wsX3_headRecord) := goodIn_app (goodIn_of _ (by decide +kernel)) ggX3_isGoodHead_X3_headRecord
set_option maxRecDepth 20000 in
theorem ggX3_isGoodHead_X3_headPlace : GoodIn wsX3_isGoodHead wsX3_headPlace := goodIn_r _ [29, 30, 31, 32, 6, 33, 8, 34, 35] (by decide +kernel) (by decide +kernel)
set_option maxRecDepth 20000 in
theorem gX3_isGoodHead_X3_headPlace : GoodIn wsX3_isGoodHead (wsV RX3 56 RX3 yX3_headPlace wsX3_headPlace) := goodIn_app (goodIn_of _ (by decide +kernel)) ggX3_isGoodHead_X3_headPlace
set_option maxRecDepth 20000 in
theorem ggX3_headVersion_X3_number : GoodIn wsX3_headVersion wsX3_number := goodIn_r _ [5, 6, 7, 8] (by decide +kernel) (by decide +kernel)
set_option maxRecDepth 20000 in
theorem gX3_headVersion_X3_number : GoodIn wsX3_headVersion (wsV RX3 46 RX3 yX3_number wsX3_number) := goodIn_app (goodIn_of _ (by decide +kernel)) ggX3_headVersion_X3_number
set_option maxRecDepth 20000 in
theorem ggX3_headRecord_X3_number : GoodIn wsX3_headRecord wsX3_number := goodIn_r _ [5, 6, 7, 8] (by decide +kernel) (by decide +kernel)
set_option maxRecDepth 20000 in
theorem gX3_headRecord_X3_number : GoodIn wsX3_headRecord (wsV RX3 46 RX3 yX3_number wsX3_number) := goodIn_app (goodIn_of _ (by decide +kernel)) ggX3_headRecord_X3_number
set_option maxRecDepth 20000 in
theorem ggX3_headPlace_X3_get : GoodIn wsX3_headPlace wsX3_get := goodIn_r _ [5, 6, 7, 8] (by decide +kernel) (by decide +kernel)
set_option maxRecDepth 20000 in
theorem gX3_headPlace_X3_get : GoodIn wsX3_headPlace (wsV RX3 27 RX3 yX3_get wsX3_get) := goodIn_app (goodIn_of _ (by decide +kernel)) ggX3_headPlace_X3_get
set_option maxRecDepth 20000 in
theorem ggX4_init_X3_init : GoodIn wsX4_init wsX3_init := goodIn_r _ [13, 14, 2, 3, 15, 16, 17, 22, 23] (by decide +kernel) (by decide +kernel)
set_option maxRecDepth 20000 in
theorem gX4_init_X3_init : GoodIn wsX4_init (wsX3_init) := ggX4_init_X3_init
set_option maxRecDepth 20000 in
theorem ggX4_write_X4_sector : GoodIn wsX4_write wsX4_sector := goodIn_r _ [8, 9, 33, 34, 35, 36] (by decide +kernel) (by decide +kernel)
set_option maxRecDepth 20000 in
theorem gX4_write_X4_sector : GoodIn wsX4_write (wsV RX4 28 RX4 yX4_sector wsX4_sector) := goodIn_app (goodIn_of _ (by decide +kernel)) ggX4_write_X4_sector
set_option maxRecDepth 20000 in
theorem ggX4_write_X3_takeWhole : GoodIn wsX4_write wsX3_takeWhole := goodIn_r _ [32, 15, 16, 17, 18, 13, 19, 20, 21, 22, 23, 24, 25, 26, 27, 28, 37, 38] (by decide +kernel) (by decide +kernel)
set_option maxRecDepth 20000 in
theorem gX4_write_X3_takeWhole : GoodIn wsX4_write (wsV RX4 36 RX3 yX3_takeWhole wsX3_takeWhole) := goodIn_app (goodIn_of _ (by decide +kernel)) ggX4_write_X3_takeWhole
set_option maxRecDepth 20000 in
theorem ggX4_latestHead_X4_sector : GoodIn wsX4_latestHead wsX4_sector := goodIn_r _ [5, 6, 49, 50, 51, 52] (by decide +kernel) (by decide +kernel)
set_option maxRecDepth 20000 in
theorem gX4_latestHead_X4_sector : GoodIn wsX4_latestHead (wsV RX4 28 RX4 yX4_sector wsX4_sector) := goodIn_app (goodIn_of _ (by decide +kernel)) ggX4_latestHead_X4_sector
set_option maxRecDepth 20000 in
theorem ggX4_latestHead_X3_isGoodHead : GoodIn wsX4_latestHead wsX3_isGoodHead := goodIn_r _ [11, 12, 13, 14, 15, 16, 10, 17, 18, 19, 20, 21, 22, 23, 24, 25, 26, 27, 28, 29, 30, 31, 32, 33, 34, 35, 36, 37, 38, 39, 40, 41, 42, 43, 53, 54] (by decide +kernel) (by decide +kernel)
set_option maxRecDepth 20000 in
theorem gX4_latestHead_X3_isGoodHead : GoodIn wsX4_latestHead (wsV RX4 40 RX3 yX3_isGoodHead wsX3_isGoodHead) := goodIn_app (goodIn_of _ (by decide +kernel)) ggX4_latestHead_X3_isGoodHead
set_option maxRecDepth 20000 in
theorem ggX4_headVersion_X4_latestHead : GoodIn wsX4_headVersion wsX4_latestHead := goodIn_r _ [5, 6, 7, 8, 4, 9, 10, 11, 12, 13, 14, 15, 16, 17, 18, 19, 20, 21, 22, 23, 24, 25, 26, 27, 28, 29, 30, 31, 32, 33, 34, 35, 36, 37, 38, 39, 40, 41, 42, 43, 44, 45, 46, 47, 48, 49, 50, 51, 52, 53, 54, 55, 56, 57, 58] (by decide +kernel) (by decide +kernel)
set_option maxRecDepth 20000 in
theorem gX4_headVersion_X4_latestHead : GoodIn wsX4_headVersion (wsV RX4 52 RX4 yX4_latestHead wsX4_latestHead) := goodIn_app (goodIn_of _ (by decide +kernel)) ggX4_headVersion_X4_latestHead
set_option maxRecDepth 20000 in
theorem ggX4_headVersion_X4_sector : GoodIn wsX4_headVersion wsX4_sector := goodIn_r _ [9, 10, 53, 54, 55, 56] (by decide +kernel) (by decide +kernel)
set_option maxRecDepth 20000 in
theorem gX4_headVersion_X4_sector : GoodIn wsX4_headVersion (wsV RX4 28 RX4 yX4_sector wsX4_sector) := goodIn_app (goodIn_of _ (by decide +kernel)) ggX4_headVersion_X4_sector
set_option maxRecDepth 20000 in
theorem ggX4_headVersion_X3_headVersion : GoodIn wsX4_headVersion wsX3_headVersion := goodIn_r _ [35, 18, 19, 20, 14, 21, 22, 57, 58] (by decide +kernel) (by decide +kernel)
set_option maxRecDepth 20000 in
theorem gX4_headVersion_X3_headVersion : GoodIn wsX4_headVersion (wsV RX4 44 RX3 yX3_headVersion wsX3_headVersion) := goodIn_app (goodIn_of _ (by decide +kernel)) ggX4_headVersion_X3_headVersion
theorem dX0_init_0 : decode cX0_init 0 = .ok (.aload_n 0, 1) := by decide +kernel
theorem dX0_init_1 : decode cX0_init 1 = .ok (.invokespecial 3, 3) := by decide +kernel
theorem dX0_init_4 : decode cX0_init 4 = .ok (.aload_n 0, 1) := by decide +kernel
theorem dX0_init_5 : decode cX0_init 5 = .ok (.sipush 512, 3) := by decide +kernel
theorem dX0_init_8 : decode cX0_init 8 = .ok (.newarray .int, 2) := by decide +kernel
theorem dX0_init_10 : decode cX0_init 10 = .ok (.putfield 9, 3) := by decide +kernel
theorem dX0_init_13 : decode cX0_init 13 = .ok (.aload_n 0, 1) := by decide +kernel
theorem dX0_init_14 : decode cX0_init 14 = .ok (.iconst 2, 1) := by decide +kernel
theorem dX0_init_15 : decode cX0_init 15 = .ok (.iconst 1, 1) := by decide +kernel
theorem dX0_init_16 : decode cX0_init 16 = .ok (.iconst 1, 1) := by decide +kernel
theorem dX0_init_17 : decode cX0_init 17 = .ok (.invokevirtual 15, 3) := by decide +kernel
theorem dX0_init_20 : decode cX0_init 20 = .ok (.return_, 1) := by decide +kernel
theorem dX0_openAt_0 : decode cX0_openAt 0 = .ok (.aload_n 0, 1) := by decide +kernel
theorem dX0_openAt_1 : decode cX0_openAt 1 = .ok (.iload_n 3, 1) := by decide +kernel
theorem dX0_openAt_2 : decode cX0_openAt 2 = .ok (.putfield 19, 3) := by decide +kernel
theorem dX0_openAt_5 : decode cX0_openAt 5 = .ok (.aload_n 0, 1) := by decide +kernel
theorem dX0_openAt_6 : decode cX0_openAt 6 = .ok (.iload_n 3, 1) := by decide +kernel
theorem dX0_openAt_7 : decode cX0_openAt 7 = .ok (.putfield 23, 3) := by decide +kernel
theorem dX0_openAt_10 : decode cX0_openAt 10 = .ok (.aload_n 0, 1) := by decide +kernel
theorem dX0_openAt_11 : decode cX0_openAt 11 = .ok (.iload_n 3, 1) := by decide +kernel
theorem dX0_openAt_12 : decode cX0_openAt 12 = .ok (.iconst 1, 1) := by decide +kernel
theorem dX0_openAt_13 : decode cX0_openAt 13 = .ok (.isub, 1) := by decide +kernel
theorem dX0_openAt_14 : decode cX0_openAt 14 = .ok (.putfield 26, 3) := by decide +kernel
theorem dX0_openAt_17 : decode cX0_openAt 17 = .ok (.aload_n 0, 1) := by decide +kernel
theorem dX0_openAt_18 : decode cX0_openAt 18 = .ok (.iload_n 1, 1) := by decide +kernel
theorem dX0_openAt_19 : decode cX0_openAt 19 = .ok (.putfield 29, 3) := by decide +kernel
theorem dX0_openAt_22 : decode cX0_openAt 22 = .ok (.aload_n 0, 1) := by decide +kernel
theorem dX0_openAt_23 : decode cX0_openAt 23 = .ok (.iconst 0, 1) := by decide +kernel
theorem dX0_openAt_24 : decode cX0_openAt 24 = .ok (.putfield 32, 3) := by decide +kernel
theorem dX0_openAt_27 : decode cX0_openAt 27 = .ok (.aload_n 0, 1) := by decide +kernel
theorem dX0_openAt_28 : decode cX0_openAt 28 = .ok (.iload_n 1, 1) := by decide +kernel
theorem dX0_openAt_29 : decode cX0_openAt 29 = .ok (.putfield 35, 3) := by decide +kernel
theorem dX0_openAt_32 : decode cX0_openAt 32 = .ok (.aload_n 0, 1) := by decide +kernel
theorem dX0_openAt_33 : decode cX0_openAt 33 = .ok (.iload_n 2, 1) := by decide +kernel
theorem dX0_openAt_34 : decode cX0_openAt 34 = .ok (.putfield 38, 3) := by decide +kernel
theorem dX0_openAt_37 : decode cX0_openAt 37 = .ok (.return_, 1) := by decide +kernel
theorem dX0_has_0 : decode cX0_has 0 = .ok (.iload_n 1, 1) := by decide +kernel
theorem dX0_has_1 : decode cX0_has 1 = .ok (.aload_n 0, 1) := by decide +kernel
theorem dX0_has_2 : decode cX0_has 2 = .ok (.getfield 19, 3) := by decide +kernel
theorem dX0_has_5 : decode cX0_has 5 = .ok (.if_icmp .lt 15, 3) := by decide +kernel
theorem dX0_has_8 : decode cX0_has 8 = .ok (.iload_n 1, 1) := by decide +kernel
theorem dX0_has_9 : decode cX0_has 9 = .ok (.aload_n 0, 1) := by decide +kernel
theorem dX0_has_10 : decode cX0_has 10 = .ok (.getfield 26, 3) := by decide +kernel
theorem dX0_has_13 : decode cX0_has 13 = .ok (.if_icmp .gt 7, 3) := by decide +kernel
theorem dX0_has_16 : decode cX0_has 16 = .ok (.iconst 1, 1) := by decide +kernel
theorem dX0_has_17 : decode cX0_has 17 = .ok (.goto 4, 3) := by decide +kernel
theorem dX0_has_20 : decode cX0_has 20 = .ok (.iconst 0, 1) := by decide +kernel
theorem dX0_has_21 : decode cX0_has 21 = .ok (.ireturn, 1) := by decide +kernel
theorem dX0_placeOf_0 : decode cX0_placeOf 0 = .ok (.iload_n 1, 1) := by decide +kernel
theorem dX0_placeOf_1 : decode cX0_placeOf 1 = .ok (.aload_n 0, 1) := by decide +kernel
theorem dX0_placeOf_2 : decode cX0_placeOf 2 = .ok (.getfield 26, 3) := by decide +kernel
theorem dX0_placeOf_5 : decode cX0_placeOf 5 = .ok (.if_icmp .le 10, 3) := by decide +kernel
theorem dX0_placeOf_8 : decode cX0_placeOf 8 = .ok (.aload_n 0, 1) := by decide +kernel
theorem dX0_placeOf_9 : decode cX0_placeOf 9 = .ok (.getfield 35, 3) := by decide +kernel
theorem dX0_placeOf_12 : decode cX0_placeOf 12 = .ok (.goto 11, 3) := by decide +kernel
theorem dX0_placeOf_15 : decode cX0_placeOf 15 = .ok (.aload_n 0, 1) := by decide +kernel
theorem dX0_placeOf_16 : decode cX0_placeOf 16 = .ok (.iload_n 1, 1) := by decide +kernel
theorem dX0_placeOf_17 : decode cX0_placeOf 17 = .ok (.invokevirtual 49, 3) := by decide +kernel
theorem dX0_placeOf_20 : decode cX0_placeOf 20 = .ok (.bipush 64, 2) := by decide +kernel
theorem dX0_placeOf_22 : decode cX0_placeOf 22 = .ok (.idiv, 1) := by decide +kernel
theorem dX0_placeOf_23 : decode cX0_placeOf 23 = .ok (.ireturn, 1) := by decide +kernel
theorem dX0_firstBeginningWith_0 : decode cX0_firstBeginningWith 0 = .ok (.aload_n 0, 1) := by decide +kernel
theorem dX0_firstBeginningWith_1 : decode cX0_firstBeginningWith 1 = .ok (.iload_n 1, 1) := by decide +kernel
theorem dX0_firstBeginningWith_2 : decode cX0_firstBeginningWith 2 = .ok (.invokevirtual 52, 3) := by decide +kernel
theorem dX0_firstBeginningWith_5 : decode cX0_firstBeginningWith 5 = .ok (.ifCond .ne 5, 3) := by decide +kernel
theorem dX0_firstBeginningWith_8 : decode cX0_firstBeginningWith 8 = .ok (.iload_n 1, 1) := by decide +kernel
theorem dX0_firstBeginningWith_9 : decode cX0_firstBeginningWith 9 = .ok (.ireturn, 1) := by decide +kernel
theorem dX0_firstBeginningWith_10 : decode cX0_firstBeginningWith 10 = .ok (.iload_n 1, 1) := by decide +kernel
theorem dX0_firstBeginningWith_11 : decode cX0_firstBeginningWith 11 = .ok (.istore_n 2, 1) := by decide +kernel
theorem dX0_firstBeginningWith_12 : decode cX0_firstBeginningWith 12 = .ok (.iconst 0, 1) := by decide +kernel
theorem dX0_firstBeginningWith_13 : decode cX0_firstBeginningWith 13 = .ok (.istore_n 3, 1) := by decide +kernel
theorem dX0_firstBeginningWith_14 : decode cX0_firstBeginningWith 14 = .ok (.iload_n 3, 1) := by decide +kernel
theorem dX0_firstBeginningWith_15 : decode cX0_firstBeginningWith 15 = .ok (.sipush 512, 3) := by decide +kernel
theorem dX0_firstBeginningWith_18 : decode cX0_firstBeginningWith 18 = .ok (.if_icmp .ge 40, 3) := by decide +kernel
theorem dX0_firstBeginningWith_21 : decode cX0_firstBeginningWith 21 = .ok (.aload_n 0, 1) := by decide +kernel
theorem dX0_firstBeginningWith_22 : decode cX0_firstBeginningWith 22 = .ok (.iload_n 2, 1) := by decide +kernel
theorem dX0_firstBeginningWith_23 : decode cX0_firstBeginningWith 23 = .ok (.iconst 1, 1) := by decide +kernel
theorem dX0_firstBeginningWith_24 : decode cX0_firstBeginningWith 24 = .ok (.isub, 1) := by decide +kernel
theorem dX0_firstBeginningWith_25 : decode cX0_firstBeginningWith 25 = .ok (.invokevirtual 52, 3) := by decide +kernel
theorem dX0_firstBeginningWith_28 : decode cX0_firstBeginningWith 28 = .ok (.ifCond .eq 30, 3) := by decide +kernel
theorem dX0_firstBeginningWith_31 : decode cX0_firstBeginningWith 31 = .ok (.aload_n 0, 1) := by decide +kernel
theorem dX0_firstBeginningWith_32 : decode cX0_firstBeginningWith 32 = .ok (.iload_n 2, 1) := by decide +kernel
theorem dX0_firstBeginningWith_33 : decode cX0_firstBeginningWith 33 = .ok (.iconst 1, 1) := by decide +kernel
theorem dX0_firstBeginningWith_34 : decode cX0_firstBeginningWith 34 = .ok (.isub, 1) := by decide +kernel
theorem dX0_firstBeginningWith_35 : decode cX0_firstBeginningWith 35 = .ok (.invokevirtual 56, 3) := by decide +kernel
theorem dX0_firstBeginningWith_38 : decode cX0_firstBeginningWith 38 = .ok (.aload_n 0, 1) := by decide +kernel
theorem dX0_firstBeginningWith_39 : decode cX0_firstBeginningWith 39 = .ok (.iload_n 1, 1) := by decide +kernel
theorem dX0_firstBeginningWith_40 : decode cX0_firstBeginningWith 40 = .ok (.invokevirtual 56, 3) := by decide +kernel
theorem dX0_firstBeginningWith_43 : decode cX0_firstBeginningWith 43 = .ok (.if_icmp .eq 6, 3) := by decide +kernel
theorem dX0_firstBeginningWith_46 : decode cX0_firstBeginningWith 46 = .ok (.goto 12, 3) := by decide +kernel
theorem dX0_firstBeginningWith_49 : decode cX0_firstBeginningWith 49 = .ok (.iinc 2 (-1), 3) := by decide +kernel
theorem dX0_firstBeginningWith_52 : decode cX0_firstBeginningWith 52 = .ok (.iinc 3 1, 3) := by decide +kernel
theorem dX0_firstBeginningWith_55 : decode cX0_firstBeginningWith 55 = .ok (.goto (-41), 3) := by decide +kernel
theorem dX0_firstBeginningWith_58 : decode cX0_firstBeginningWith 58 = .ok (.iload_n 2, 1) := by decide +kernel
theorem dX0_firstBeginningWith_59 : decode cX0_firstBeginningWith 59 = .ok (.ireturn, 1) := by decide +kernel
theorem dX0_giveUpBefore_0 : decode cX0_giveUpBefore 0 = .ok (.iload_n 1, 1) := by decide +kernel
theorem dX0_giveUpBefore_1 : decode cX0_giveUpBefore 1 = .ok (.aload_n 0, 1) := by decide +kernel
theorem dX0_giveUpBefore_2 : decode cX0_giveUpBefore 2 = .ok (.getfield 26, 3) := by decide +kernel
theorem dX0_giveUpBefore_5 : decode cX0_giveUpBefore 5 = .ok (.if_icmp .le 10, 3) := by decide +kernel
theorem dX0_giveUpBefore_8 : decode cX0_giveUpBefore 8 = .ok (.aload_n 0, 1) := by decide +kernel
theorem dX0_giveUpBefore_9 : decode cX0_giveUpBefore 9 = .ok (.getfield 32, 3) := by decide +kernel
theorem dX0_giveUpBefore_12 : decode cX0_giveUpBefore 12 = .ok (.goto 14, 3) := by decide +kernel
theorem dX0_giveUpBefore_15 : decode cX0_giveUpBefore 15 = .ok (.iload_n 3, 1) := by decide +kernel
theorem dX0_giveUpBefore_16 : decode cX0_giveUpBefore 16 = .ok (.aload_n 0, 1) := by decide +kernel
theorem dX0_giveUpBefore_17 : decode cX0_giveUpBefore 17 = .ok (.getfield 29, 3) := by decide +kernel
theorem dX0_giveUpBefore_20 : decode cX0_giveUpBefore 20 = .ok (.isub, 1) := by decide +kernel
theorem dX0_giveUpBefore_21 : decode cX0_giveUpBefore 21 = .ok (.bipush 62, 2) := by decide +kernel
theorem dX0_giveUpBefore_23 : decode cX0_giveUpBefore 23 = .ok (.invokestatic 59, 3) := by decide +kernel
theorem dX0_giveUpBefore_26 : decode cX0_giveUpBefore 26 = .ok (.istore 4, 2) := by decide +kernel
theorem dX0_giveUpBefore_28 : decode cX0_giveUpBefore 28 = .ok (.aload_n 0, 1) := by decide +kernel
theorem dX0_giveUpBefore_29 : decode cX0_giveUpBefore 29 = .ok (.dup, 1) := by decide +kernel
theorem dX0_giveUpBefore_30 : decode cX0_giveUpBefore 30 = .ok (.getfield 32, 3) := by decide +kernel
theorem dX0_giveUpBefore_33 : decode cX0_giveUpBefore 33 = .ok (.iload 4, 2) := by decide +kernel
theorem dX0_giveUpBefore_35 : decode cX0_giveUpBefore 35 = .ok (.isub, 1) := by decide +kernel
theorem dX0_giveUpBefore_36 : decode cX0_giveUpBefore 36 = .ok (.putfield 32, 3) := by decide +kernel
theorem dX0_giveUpBefore_39 : decode cX0_giveUpBefore 39 = .ok (.aload_n 0, 1) := by decide +kernel
theorem dX0_giveUpBefore_40 : decode cX0_giveUpBefore 40 = .ok (.iload_n 3, 1) := by decide +kernel
theorem dX0_giveUpBefore_41 : decode cX0_giveUpBefore 41 = .ok (.putfield 29, 3) := by decide +kernel
theorem dX0_giveUpBefore_44 : decode cX0_giveUpBefore 44 = .ok (.aload_n 0, 1) := by decide +kernel
theorem dX0_giveUpBefore_45 : decode cX0_giveUpBefore 45 = .ok (.iload_n 2, 1) := by decide +kernel
theorem dX0_giveUpBefore_46 : decode cX0_giveUpBefore 46 = .ok (.putfield 19, 3) := by decide +kernel
theorem dX0_giveUpBefore_49 : decode cX0_giveUpBefore 49 = .ok (.aload_n 0, 1) := by decide +kernel
theorem dX0_giveUpBefore_50 : decode cX0_giveUpBefore 50 = .ok (.iload_n 1, 1) := by decide +kernel
theorem dX0_giveUpBefore_51 : decode cX0_giveUpBefore 51 = .ok (.putfield 23, 3) := by decide +kernel
theorem dX0_giveUpBefore_54 : decode cX0_giveUpBefore 54 = .ok (.iload 4, 2) := by decide +kernel
theorem dX0_giveUpBefore_56 : decode cX0_giveUpBefore 56 = .ok (.ireturn, 1) := by decide +kernel
theorem dX1_init_0 : decode cX1_init 0 = .ok (.aload_n 0, 1) := by decide +kernel
theorem dX1_init_1 : decode cX1_init 1 = .ok (.invokespecial 3, 3) := by decide +kernel
theorem dX1_init_4 : decode cX1_init 4 = .ok (.aload_n 0, 1) := by decide +kernel
theorem dX1_init_5 : decode cX1_init 5 = .ok (.sipush 606, 3) := by decide +kernel
theorem dX1_init_8 : decode cX1_init 8 = .ok (.newarray .int, 2) := by decide +kernel
theorem dX1_init_10 : decode cX1_init 10 = .ok (.putfield 9, 3) := by decide +kernel
theorem dX1_init_13 : decode cX1_init 13 = .ok (.aload_n 0, 1) := by decide +kernel
theorem dX1_init_14 : decode cX1_init 14 = .ok (.iconst 0, 1) := by decide +kernel
theorem dX1_init_15 : decode cX1_init 15 = .ok (.putfield 15, 3) := by decide +kernel
theorem dX1_init_18 : decode cX1_init 18 = .ok (.aload_n 0, 1) := by decide +kernel
theorem dX1_init_19 : decode cX1_init 19 = .ok (.iconst 0, 1) := by decide +kernel
theorem dX1_init_20 : decode cX1_init 20 = .ok (.putfield 19, 3) := by decide +kernel
theorem dX1_init_23 : decode cX1_init 23 = .ok (.aload_n 0, 1) := by decide +kernel
theorem dX1_init_24 : decode cX1_init 24 = .ok (.iconst 0, 1) := by decide +kernel
theorem dX1_init_25 : decode cX1_init 25 = .ok (.putfield 22, 3) := by decide +kernel
theorem dX1_init_28 : decode cX1_init 28 = .ok (.return_, 1) := by decide +kernel
theorem dX1_empty_0 : decode cX1_empty 0 = .ok (.aload_n 0, 1) := by decide +kernel
theorem dX1_empty_1 : decode cX1_empty 1 = .ok (.iconst 0, 1) := by decide +kernel
theorem dX1_empty_2 : decode cX1_empty 2 = .ok (.putfield 15, 3) := by decide +kernel
theorem dX1_empty_5 : decode cX1_empty 5 = .ok (.aload_n 0, 1) := by decide +kernel
theorem dX1_empty_6 : decode cX1_empty 6 = .ok (.iconst 0, 1) := by decide +kernel
theorem dX1_empty_7 : decode cX1_empty 7 = .ok (.putfield 19, 3) := by decide +kernel
theorem dX1_empty_10 : decode cX1_empty 10 = .ok (.aload_n 0, 1) := by decide +kernel
theorem dX1_empty_11 : decode cX1_empty 11 = .ok (.iconst 0, 1) := by decide +kernel
theorem dX1_empty_12 : decode cX1_empty 12 = .ok (.putfield 22, 3) := by decide +kernel
theorem dX1_empty_15 : decode cX1_empty 15 = .ok (.return_, 1) := by decide +kernel
theorem dX1_sectorsWith_0 : decode cX1_sectorsWith 0 = .ok (.aload_n 0, 1) := by decide +kernel
theorem dX1_sectorsWith_1 : decode cX1_sectorsWith 1 = .ok (.getfield 15, 3) := by decide +kernel
theorem dX1_sectorsWith_4 : decode cX1_sectorsWith 4 = .ok (.iload_n 1, 1) := by decide +kernel
theorem dX1_sectorsWith_5 : decode cX1_sectorsWith 5 = .ok (.iadd, 1) := by decide +kernel
theorem dX1_sectorsWith_6 : decode cX1_sectorsWith 6 = .ok (.bipush 48, 2) := by decide +kernel
theorem dX1_sectorsWith_8 : decode cX1_sectorsWith 8 = .ok (.iadd, 1) := by decide +kernel
theorem dX1_sectorsWith_9 : decode cX1_sectorsWith 9 = .ok (.iconst 1, 1) := by decide +kernel
theorem dX1_sectorsWith_10 : decode cX1_sectorsWith 10 = .ok (.isub, 1) := by decide +kernel
theorem dX1_sectorsWith_11 : decode cX1_sectorsWith 11 = .ok (.bipush 48, 2) := by decide +kernel
theorem dX1_sectorsWith_13 : decode cX1_sectorsWith 13 = .ok (.idiv, 1) := by decide +kernel
theorem dX1_sectorsWith_14 : decode cX1_sectorsWith 14 = .ok (.ireturn, 1) := by decide +kernel
theorem dX1_tellTo_0 : decode cX1_tellTo 0 = .ok (.iconst 0, 1) := by decide +kernel
theorem dX1_tellTo_1 : decode cX1_tellTo 1 = .ok (.istore_n 3, 1) := by decide +kernel
theorem dX1_tellTo_2 : decode cX1_tellTo 2 = .ok (.iconst 0, 1) := by decide +kernel
theorem dX1_tellTo_3 : decode cX1_tellTo 3 = .ok (.istore 4, 2) := by decide +kernel
theorem dX1_tellTo_5 : decode cX1_tellTo 5 = .ok (.iload 4, 2) := by decide +kernel
theorem dX1_tellTo_7 : decode cX1_tellTo 7 = .ok (.aload_n 0, 1) := by decide +kernel
theorem dX1_tellTo_8 : decode cX1_tellTo 8 = .ok (.getfield 19, 3) := by decide +kernel
theorem dX1_tellTo_11 : decode cX1_tellTo 11 = .ok (.if_icmp .ge 31, 3) := by decide +kernel
theorem dX1_tellTo_14 : decode cX1_tellTo 14 = .ok (.aload_n 1, 1) := by decide +kernel
theorem dX1_tellTo_15 : decode cX1_tellTo 15 = .ok (.iload_n 2, 1) := by decide +kernel
theorem dX1_tellTo_16 : decode cX1_tellTo 16 = .ok (.iload_n 3, 1) := by decide +kernel
theorem dX1_tellTo_17 : decode cX1_tellTo 17 = .ok (.bipush 48, 2) := by decide +kernel
theorem dX1_tellTo_19 : decode cX1_tellTo 19 = .ok (.idiv, 1) := by decide +kernel
theorem dX1_tellTo_20 : decode cX1_tellTo 20 = .ok (.invokestatic 54, 3) := by decide +kernel
theorem dX1_tellTo_23 : decode cX1_tellTo 23 = .ok (.iload_n 3, 1) := by decide +kernel
theorem dX1_tellTo_24 : decode cX1_tellTo 24 = .ok (.bipush 48, 2) := by decide +kernel
theorem dX1_tellTo_26 : decode cX1_tellTo 26 = .ok (.irem, 1) := by decide +kernel
theorem dX1_tellTo_27 : decode cX1_tellTo 27 = .ok (.invokevirtual 57, 3) := by decide +kernel
theorem dX1_tellTo_30 : decode cX1_tellTo 30 = .ok (.aload_n 0, 1) := by decide +kernel
theorem dX1_tellTo_31 : decode cX1_tellTo 31 = .ok (.iload_n 3, 1) := by decide +kernel
theorem dX1_tellTo_32 : decode cX1_tellTo 32 = .ok (.invokevirtual 33, 3) := by decide +kernel
theorem dX1_tellTo_35 : decode cX1_tellTo 35 = .ok (.istore_n 3, 1) := by decide +kernel
theorem dX1_tellTo_36 : decode cX1_tellTo 36 = .ok (.iinc 4 1, 3) := by decide +kernel
theorem dX1_tellTo_39 : decode cX1_tellTo 39 = .ok (.goto (-34), 3) := by decide +kernel
theorem dX1_tellTo_42 : decode cX1_tellTo 42 = .ok (.return_, 1) := by decide +kernel
theorem dX2_init_0 : decode cX2_init 0 = .ok (.aload_n 0, 1) := by decide +kernel
theorem dX2_init_1 : decode cX2_init 1 = .ok (.invokespecial 3, 3) := by decide +kernel
theorem dX2_init_4 : decode cX2_init 4 = .ok (.aload_n 0, 1) := by decide +kernel
theorem dX2_init_5 : decode cX2_init 5 = .ok (.bipush 6, 2) := by decide +kernel
theorem dX2_init_7 : decode cX2_init 7 = .ok (.newarray .int, 2) := by decide +kernel
theorem dX2_init_9 : decode cX2_init 9 = .ok (.putfield 9, 3) := by decide +kernel
theorem dX2_init_12 : decode cX2_init 12 = .ok (.aload_n 0, 1) := by decide +kernel
theorem dX2_init_13 : decode cX2_init 13 = .ok (.iconst 0, 1) := by decide +kernel
theorem dX2_init_14 : decode cX2_init 14 = .ok (.putfield 15, 3) := by decide +kernel
theorem dX2_init_17 : decode cX2_init 17 = .ok (.aload_n 0, 1) := by decide +kernel
theorem dX2_init_18 : decode cX2_init 18 = .ok (.iconst 2, 1) := by decide +kernel
theorem dX2_init_19 : decode cX2_init 19 = .ok (.putfield 19, 3) := by decide +kernel
theorem dX2_init_22 : decode cX2_init 22 = .ok (.aload_n 0, 1) := by decide +kernel
theorem dX2_init_23 : decode cX2_init 23 = .ok (.iconst 0, 1) := by decide +kernel
theorem dX2_init_24 : decode cX2_init 24 = .ok (.putfield 22, 3) := by decide +kernel
theorem dX2_init_27 : decode cX2_init 27 = .ok (.aload_n 0, 1) := by decide +kernel
theorem dX2_init_28 : decode cX2_init 28 = .ok (.iconst 0, 1) := by decide +kernel
theorem dX2_init_29 : decode cX2_init 29 = .ok (.putfield 25, 3) := by decide +kernel
theorem dX2_init_32 : decode cX2_init 32 = .ok (.return_, 1) := by decide +kernel
theorem dX3_init_0 : decode cX3_init 0 = .ok (.aload_n 0, 1) := by decide +kernel
theorem dX3_init_1 : decode cX3_init 1 = .ok (.invokespecial 3, 3) := by decide +kernel
theorem dX3_init_4 : decode cX3_init 4 = .ok (.aload_n 0, 1) := by decide +kernel
theorem dX3_init_5 : decode cX3_init 5 = .ok (.bipush 64, 2) := by decide +kernel
theorem dX3_init_7 : decode cX3_init 7 = .ok (.newarray .int, 2) := by decide +kernel
theorem dX3_init_9 : decode cX3_init 9 = .ok (.putfield 9, 3) := by decide +kernel
theorem dX3_init_12 : decode cX3_init 12 = .ok (.aload_n 0, 1) := by decide +kernel
theorem dX3_init_13 : decode cX3_init 13 = .ok (.iconst 0, 1) := by decide +kernel
theorem dX3_init_14 : decode cX3_init 14 = .ok (.putfield 15, 3) := by decide +kernel
theorem dX3_init_17 : decode cX3_init 17 = .ok (.return_, 1) := by decide +kernel
theorem dX3_get_0 : decode cX3_get 0 = .ok (.iload_n 1, 1) := by decide +kernel
theorem dX3_get_1 : decode cX3_get 1 = .ok (.ifCond .lt 21, 3) := by decide +kernel
theorem dX3_get_4 : decode cX3_get 4 = .ok (.iload_n 1, 1) := by decide +kernel
theorem dX3_get_5 : decode cX3_get 5 = .ok (.aload_n 0, 1) := by decide +kernel
theorem dX3_get_6 : decode cX3_get 6 = .ok (.getfield 9, 3) := by decide +kernel
theorem dX3_get_9 : decode cX3_get 9 = .ok (.arraylength, 1) := by decide +kernel
theorem dX3_get_10 : decode cX3_get 10 = .ok (.if_icmp .ge 12, 3) := by decide +kernel
theorem dX3_get_13 : decode cX3_get 13 = .ok (.aload_n 0, 1) := by decide +kernel
theorem dX3_get_14 : decode cX3_get 14 = .ok (.getfield 9, 3) := by decide +kernel
theorem dX3_get_17 : decode cX3_get 17 = .ok (.iload_n 1, 1) := by decide +kernel
theorem dX3_get_18 : decode cX3_get 18 = .ok (.iaload, 1) := by decide +kernel
theorem dX3_get_19 : decode cX3_get 19 = .ok (.goto 4, 3) := by decide +kernel
theorem dX3_get_22 : decode cX3_get 22 = .ok (.iconst 0, 1) := by decide +kernel
theorem dX3_get_23 : decode cX3_get 23 = .ok (.ireturn, 1) := by decide +kernel
theorem dX3_set_0 : decode cX3_set 0 = .ok (.iload_n 1, 1) := by decide +kernel
theorem dX3_set_1 : decode cX3_set 1 = .ok (.ifCond .lt 23, 3) := by decide +kernel
theorem dX3_set_4 : decode cX3_set 4 = .ok (.iload_n 1, 1) := by decide +kernel
theorem dX3_set_5 : decode cX3_set 5 = .ok (.aload_n 0, 1) := by decide +kernel
theorem dX3_set_6 : decode cX3_set 6 = .ok (.getfield 9, 3) := by decide +kernel
theorem dX3_set_9 : decode cX3_set 9 = .ok (.arraylength, 1) := by decide +kernel
theorem dX3_set_10 : decode cX3_set 10 = .ok (.if_icmp .ge 14, 3) := by decide +kernel
theorem dX3_set_13 : decode cX3_set 13 = .ok (.aload_n 0, 1) := by decide +kernel
theorem dX3_set_14 : decode cX3_set 14 = .ok (.getfield 9, 3) := by decide +kernel
theorem dX3_set_17 : decode cX3_set 17 = .ok (.iload_n 1, 1) := by decide +kernel
theorem dX3_set_18 : decode cX3_set 18 = .ok (.iload_n 2, 1) := by decide +kernel
theorem dX3_set_19 : decode cX3_set 19 = .ok (.sipush 255, 3) := by decide +kernel
theorem dX3_set_22 : decode cX3_set 22 = .ok (.iand, 1) := by decide +kernel
theorem dX3_set_23 : decode cX3_set 23 = .ok (.iastore, 1) := by decide +kernel
theorem dX3_set_24 : decode cX3_set 24 = .ok (.return_, 1) := by decide +kernel
theorem dX3_number_0 : decode cX3_number 0 = .ok (.iload_n 1, 1) := by decide +kernel
theorem dX3_number_1 : decode cX3_number 1 = .ok (.ifCond .lt 14, 3) := by decide +kernel
theorem dX3_number_4 : decode cX3_number 4 = .ok (.iload_n 1, 1) := by decide +kernel
theorem dX3_number_5 : decode cX3_number 5 = .ok (.aload_n 0, 1) := by decide +kernel
theorem dX3_number_6 : decode cX3_number 6 = .ok (.getfield 9, 3) := by decide +kernel
theorem dX3_number_9 : decode cX3_number 9 = .ok (.arraylength, 1) := by decide +kernel
theorem dX3_number_10 : decode cX3_number 10 = .ok (.iconst 4, 1) := by decide +kernel
theorem dX3_number_11 : decode cX3_number 11 = .ok (.isub, 1) := by decide +kernel
theorem dX3_number_12 : decode cX3_number 12 = .ok (.if_icmp .le 5, 3) := by decide +kernel
theorem dX3_number_15 : decode cX3_number 15 = .ok (.iconst 0, 1) := by decide +kernel
theorem dX3_number_16 : decode cX3_number 16 = .ok (.ireturn, 1) := by decide +kernel
theorem dX3_number_17 : decode cX3_number 17 = .ok (.aload_n 0, 1) := by decide +kernel
theorem dX3_number_18 : decode cX3_number 18 = .ok (.getfield 9, 3) := by decide +kernel
theorem dX3_number_21 : decode cX3_number 21 = .ok (.iload_n 1, 1) := by decide +kernel
theorem dX3_number_22 : decode cX3_number 22 = .ok (.iaload, 1) := by decide +kernel
theorem dX3_number_23 : decode cX3_number 23 = .ok (.bipush 24, 2) := by decide +kernel
theorem dX3_number_25 : decode cX3_number 25 = .ok (.ishl, 1) := by decide +kernel
theorem dX3_number_26 : decode cX3_number 26 = .ok (.aload_n 0, 1) := by decide +kernel
theorem dX3_number_27 : decode cX3_number 27 = .ok (.getfield 9, 3) := by decide +kernel
theorem dX3_number_30 : decode cX3_number 30 = .ok (.iload_n 1, 1) := by decide +kernel
theorem dX3_number_31 : decode cX3_number 31 = .ok (.iconst 1, 1) := by decide +kernel
theorem dX3_number_32 : decode cX3_number 32 = .ok (.iadd, 1) := by decide +kernel
theorem dX3_number_33 : decode cX3_number 33 = .ok (.iaload, 1) := by decide +kernel
theorem dX3_number_34 : decode cX3_number 34 = .ok (.bipush 16, 2) := by decide +kernel
theorem dX3_number_36 : decode cX3_number 36 = .ok (.ishl, 1) := by decide +kernel
theorem dX3_number_37 : decode cX3_number 37 = .ok (.ior, 1) := by decide +kernel
theorem dX3_number_38 : decode cX3_number 38 = .ok (.aload_n 0, 1) := by decide +kernel
theorem dX3_number_39 : decode cX3_number 39 = .ok (.getfield 9, 3) := by decide +kernel
theorem dX3_number_42 : decode cX3_number 42 = .ok (.iload_n 1, 1) := by decide +kernel
theorem dX3_number_43 : decode cX3_number 43 = .ok (.iconst 2, 1) := by decide +kernel
theorem dX3_number_44 : decode cX3_number 44 = .ok (.iadd, 1) := by decide +kernel
theorem dX3_number_45 : decode cX3_number 45 = .ok (.iaload, 1) := by decide +kernel
theorem dX3_number_46 : decode cX3_number 46 = .ok (.bipush 8, 2) := by decide +kernel
theorem dX3_number_48 : decode cX3_number 48 = .ok (.ishl, 1) := by decide +kernel
theorem dX3_number_49 : decode cX3_number 49 = .ok (.ior, 1) := by decide +kernel
theorem dX3_number_50 : decode cX3_number 50 = .ok (.aload_n 0, 1) := by decide +kernel
theorem dX3_number_51 : decode cX3_number 51 = .ok (.getfield 9, 3) := by decide +kernel
theorem dX3_number_54 : decode cX3_number 54 = .ok (.iload_n 1, 1) := by decide +kernel
theorem dX3_number_55 : decode cX3_number 55 = .ok (.iconst 3, 1) := by decide +kernel
theorem dX3_number_56 : decode cX3_number 56 = .ok (.iadd, 1) := by decide +kernel
theorem dX3_number_57 : decode cX3_number 57 = .ok (.iaload, 1) := by decide +kernel
theorem dX3_number_58 : decode cX3_number 58 = .ok (.ior, 1) := by decide +kernel
theorem dX3_number_59 : decode cX3_number 59 = .ok (.ireturn, 1) := by decide +kernel
theorem dX3_setNumber_0 : decode cX3_setNumber 0 = .ok (.aload_n 0, 1) := by decide +kernel
theorem dX3_setNumber_1 : decode cX3_setNumber 1 = .ok (.iload_n 1, 1) := by decide +kernel
theorem dX3_setNumber_2 : decode cX3_setNumber 2 = .ok (.iload_n 2, 1) := by decide +kernel
theorem dX3_setNumber_3 : decode cX3_setNumber 3 = .ok (.bipush 24, 2) := by decide +kernel
theorem dX3_setNumber_5 : decode cX3_setNumber 5 = .ok (.iushr, 1) := by decide +kernel
theorem dX3_setNumber_6 : decode cX3_setNumber 6 = .ok (.invokevirtual 19, 3) := by decide +kernel
theorem dX3_setNumber_9 : decode cX3_setNumber 9 = .ok (.aload_n 0, 1) := by decide +kernel
theorem dX3_setNumber_10 : decode cX3_setNumber 10 = .ok (.iload_n 1, 1) := by decide +kernel
theorem dX3_setNumber_11 : decode cX3_setNumber 11 = .ok (.iconst 1, 1) := by decide +kernel
theorem dX3_setNumber_12 : decode cX3_setNumber 12 = .ok (.iadd, 1) := by decide +kernel
theorem dX3_setNumber_13 : decode cX3_setNumber 13 = .ok (.iload_n 2, 1) := by decide +kernel
theorem dX3_setNumber_14 : decode cX3_setNumber 14 = .ok (.bipush 16, 2) := by decide +kernel
theorem dX3_setNumber_16 : decode cX3_setNumber 16 = .ok (.iushr, 1) := by decide +kernel
theorem dX3_setNumber_17 : decode cX3_setNumber 17 = .ok (.invokevirtual 19, 3) := by decide +kernel
theorem dX3_setNumber_20 : decode cX3_setNumber 20 = .ok (.aload_n 0, 1) := by decide +kernel
theorem dX3_setNumber_21 : decode cX3_setNumber 21 = .ok (.iload_n 1, 1) := by decide +kernel
theorem dX3_setNumber_22 : decode cX3_setNumber 22 = .ok (.iconst 2, 1) := by decide +kernel
theorem dX3_setNumber_23 : decode cX3_setNumber 23 = .ok (.iadd, 1) := by decide +kernel
theorem dX3_setNumber_24 : decode cX3_setNumber 24 = .ok (.iload_n 2, 1) := by decide +kernel
theorem dX3_setNumber_25 : decode cX3_setNumber 25 = .ok (.bipush 8, 2) := by decide +kernel
theorem dX3_setNumber_27 : decode cX3_setNumber 27 = .ok (.iushr, 1) := by decide +kernel
theorem dX3_setNumber_28 : decode cX3_setNumber 28 = .ok (.invokevirtual 19, 3) := by decide +kernel
theorem dX3_setNumber_31 : decode cX3_setNumber 31 = .ok (.aload_n 0, 1) := by decide +kernel
theorem dX3_setNumber_32 : decode cX3_setNumber 32 = .ok (.iload_n 1, 1) := by decide +kernel
theorem dX3_setNumber_33 : decode cX3_setNumber 33 = .ok (.iconst 3, 1) := by decide +kernel
theorem dX3_setNumber_34 : decode cX3_setNumber 34 = .ok (.iadd, 1) := by decide +kernel
theorem dX3_setNumber_35 : decode cX3_setNumber 35 = .ok (.iload_n 2, 1) := by decide +kernel
theorem dX3_setNumber_36 : decode cX3_setNumber 36 = .ok (.invokevirtual 19, 3) := by decide +kernel
theorem dX3_setNumber_39 : decode cX3_setNumber 39 = .ok (.return_, 1) := by decide +kernel
theorem dX3_clear_0 : decode cX3_clear 0 = .ok (.iconst 0, 1) := by decide +kernel
theorem dX3_clear_1 : decode cX3_clear 1 = .ok (.istore_n 1, 1) := by decide +kernel
theorem dX3_clear_2 : decode cX3_clear 2 = .ok (.iload_n 1, 1) := by decide +kernel
theorem dX3_clear_3 : decode cX3_clear 3 = .ok (.aload_n 0, 1) := by decide +kernel
theorem dX3_clear_4 : decode cX3_clear 4 = .ok (.getfield 9, 3) := by decide +kernel
theorem dX3_clear_7 : decode cX3_clear 7 = .ok (.arraylength, 1) := by decide +kernel
theorem dX3_clear_8 : decode cX3_clear 8 = .ok (.if_icmp .ge 16, 3) := by decide +kernel
theorem dX3_clear_11 : decode cX3_clear 11 = .ok (.aload_n 0, 1) := by decide +kernel
theorem dX3_clear_12 : decode cX3_clear 12 = .ok (.getfield 9, 3) := by decide +kernel
theorem dX3_clear_15 : decode cX3_clear 15 = .ok (.iload_n 1, 1) := by decide +kernel
theorem dX3_clear_16 : decode cX3_clear 16 = .ok (.iconst 0, 1) := by decide +kernel
theorem dX3_clear_17 : decode cX3_clear 17 = .ok (.iastore, 1) := by decide +kernel
theorem dX3_clear_18 : decode cX3_clear 18 = .ok (.iinc 1 1, 3) := by decide +kernel
theorem dX3_clear_21 : decode cX3_clear 21 = .ok (.goto (-19), 3) := by decide +kernel
theorem dX3_clear_24 : decode cX3_clear 24 = .ok (.return_, 1) := by decide +kernel
theorem dX3_takeWhole_0 : decode cX3_takeWhole 0 = .ok (.aload_n 0, 1) := by decide +kernel
theorem dX3_takeWhole_1 : decode cX3_takeWhole 1 = .ok (.aload_n 1, 1) := by decide +kernel
theorem dX3_takeWhole_2 : decode cX3_takeWhole 2 = .ok (.bipush 64, 2) := by decide +kernel
theorem dX3_takeWhole_4 : decode cX3_takeWhole 4 = .ok (.invokevirtual 23, 3) := by decide +kernel
theorem dX3_takeWhole_7 : decode cX3_takeWhole 7 = .ok (.aload_n 0, 1) := by decide +kernel
theorem dX3_takeWhole_8 : decode cX3_takeWhole 8 = .ok (.iconst 0, 1) := by decide +kernel
theorem dX3_takeWhole_9 : decode cX3_takeWhole 9 = .ok (.putfield 15, 3) := by decide +kernel
theorem dX3_takeWhole_12 : decode cX3_takeWhole 12 = .ok (.return_, 1) := by decide +kernel
theorem dX3_takeBytes_0 : decode cX3_takeBytes 0 = .ok (.iconst 0, 1) := by decide +kernel
theorem dX3_takeBytes_1 : decode cX3_takeBytes 1 = .ok (.istore_n 3, 1) := by decide +kernel
theorem dX3_takeBytes_2 : decode cX3_takeBytes 2 = .ok (.iload_n 3, 1) := by decide +kernel
theorem dX3_takeBytes_3 : decode cX3_takeBytes 3 = .ok (.iload_n 2, 1) := by decide +kernel
theorem dX3_takeBytes_4 : decode cX3_takeBytes 4 = .ok (.if_icmp .ge 25, 3) := by decide +kernel
theorem dX3_takeBytes_7 : decode cX3_takeBytes 7 = .ok (.iload_n 3, 1) := by decide +kernel
theorem dX3_takeBytes_8 : decode cX3_takeBytes 8 = .ok (.bipush 64, 2) := by decide +kernel
theorem dX3_takeBytes_10 : decode cX3_takeBytes 10 = .ok (.if_icmp .ge 19, 3) := by decide +kernel
theorem dX3_takeBytes_13 : decode cX3_takeBytes 13 = .ok (.aload_n 0, 1) := by decide +kernel
theorem dX3_takeBytes_14 : decode cX3_takeBytes 14 = .ok (.iload_n 3, 1) := by decide +kernel
theorem dX3_takeBytes_15 : decode cX3_takeBytes 15 = .ok (.aload_n 1, 1) := by decide +kernel
theorem dX3_takeBytes_16 : decode cX3_takeBytes 16 = .ok (.iload_n 3, 1) := by decide +kernel
theorem dX3_takeBytes_17 : decode cX3_takeBytes 17 = .ok (.invokevirtual 27, 3) := by decide +kernel
theorem dX3_takeBytes_20 : decode cX3_takeBytes 20 = .ok (.invokevirtual 19, 3) := by decide +kernel
theorem dX3_takeBytes_23 : decode cX3_takeBytes 23 = .ok (.iinc 3 1, 3) := by decide +kernel
theorem dX3_takeBytes_26 : decode cX3_takeBytes 26 = .ok (.goto (-24), 3) := by decide +kernel
theorem dX3_takeBytes_29 : decode cX3_takeBytes 29 = .ok (.return_, 1) := by decide +kernel
theorem dX3_sumOver_0 : decode cX3_sumOver 0 = .ok (.iload_n 1, 1) := by decide +kernel
theorem dX3_sumOver_1 : decode cX3_sumOver 1 = .ok (.istore 4, 2) := by decide +kernel
theorem dX3_sumOver_3 : decode cX3_sumOver 3 = .ok (.iload_n 2, 1) := by decide +kernel
theorem dX3_sumOver_4 : decode cX3_sumOver 4 = .ok (.istore 5, 2) := by decide +kernel
theorem dX3_sumOver_6 : decode cX3_sumOver 6 = .ok (.iload 5, 2) := by decide +kernel
theorem dX3_sumOver_8 : decode cX3_sumOver 8 = .ok (.ifCond .lt 77, 3) := by decide +kernel
theorem dX3_sumOver_11 : decode cX3_sumOver 11 = .ok (.iload 5, 2) := by decide +kernel
theorem dX3_sumOver_13 : decode cX3_sumOver 13 = .ok (.iload_n 3, 1) := by decide +kernel
theorem dX3_sumOver_14 : decode cX3_sumOver 14 = .ok (.if_icmp .ge 71, 3) := by decide +kernel
theorem dX3_sumOver_17 : decode cX3_sumOver 17 = .ok (.iload 5, 2) := by decide +kernel
theorem dX3_sumOver_19 : decode cX3_sumOver 19 = .ok (.aload_n 0, 1) := by decide +kernel
theorem dX3_sumOver_20 : decode cX3_sumOver 20 = .ok (.getfield 9, 3) := by decide +kernel
theorem dX3_sumOver_23 : decode cX3_sumOver 23 = .ok (.arraylength, 1) := by decide +kernel
theorem dX3_sumOver_24 : decode cX3_sumOver 24 = .ok (.if_icmp .ge 61, 3) := by decide +kernel
theorem dX3_sumOver_27 : decode cX3_sumOver 27 = .ok (.iload 4, 2) := by decide +kernel
theorem dX3_sumOver_29 : decode cX3_sumOver 29 = .ok (.aload_n 0, 1) := by decide +kernel
theorem dX3_sumOver_30 : decode cX3_sumOver 30 = .ok (.getfield 9, 3) := by decide +kernel
theorem dX3_sumOver_33 : decode cX3_sumOver 33 = .ok (.iload 5, 2) := by decide +kernel
theorem dX3_sumOver_35 : decode cX3_sumOver 35 = .ok (.iaload, 1) := by decide +kernel
theorem dX3_sumOver_36 : decode cX3_sumOver 36 = .ok (.ixor, 1) := by decide +kernel
theorem dX3_sumOver_37 : decode cX3_sumOver 37 = .ok (.istore 4, 2) := by decide +kernel
theorem dX3_sumOver_39 : decode cX3_sumOver 39 = .ok (.iconst 0, 1) := by decide +kernel
theorem dX3_sumOver_40 : decode cX3_sumOver 40 = .ok (.istore 6, 2) := by decide +kernel
theorem dX3_sumOver_42 : decode cX3_sumOver 42 = .ok (.iload 6, 2) := by decide +kernel
theorem dX3_sumOver_44 : decode cX3_sumOver 44 = .ok (.bipush 8, 2) := by decide +kernel
theorem dX3_sumOver_46 : decode cX3_sumOver 46 = .ok (.if_icmp .ge 33, 3) := by decide +kernel
theorem dX3_sumOver_49 : decode cX3_sumOver 49 = .ok (.iload 4, 2) := by decide +kernel
theorem dX3_sumOver_51 : decode cX3_sumOver 51 = .ok (.iconst 1, 1) := by decide +kernel
theorem dX3_sumOver_52 : decode cX3_sumOver 52 = .ok (.iand, 1) := by decide +kernel
theorem dX3_sumOver_53 : decode cX3_sumOver 53 = .ok (.iconst 1, 1) := by decide +kernel
theorem dX3_sumOver_54 : decode cX3_sumOver 54 = .ok (.if_icmp .ne 13, 3) := by decide +kernel
theorem dX3_sumOver_57 : decode cX3_sumOver 57 = .ok (.iload 4, 2) := by decide +kernel
theorem dX3_sumOver_59 : decode cX3_sumOver 59 = .ok (.iconst 1, 1) := by decide +kernel
theorem dX3_sumOver_60 : decode cX3_sumOver 60 = .ok (.iushr, 1) := by decide +kernel
theorem dX3_sumOver_61 : decode cX3_sumOver 61 = .ok (.ldc 31, 2) := by decide +kernel
theorem dX3_sumOver_63 : decode cX3_sumOver 63 = .ok (.ixor, 1) := by decide +kernel
theorem dX3_sumOver_64 : decode cX3_sumOver 64 = .ok (.goto 7, 3) := by decide +kernel
theorem dX3_sumOver_67 : decode cX3_sumOver 67 = .ok (.iload 4, 2) := by decide +kernel
theorem dX3_sumOver_69 : decode cX3_sumOver 69 = .ok (.iconst 1, 1) := by decide +kernel
theorem dX3_sumOver_70 : decode cX3_sumOver 70 = .ok (.iushr, 1) := by decide +kernel
theorem dX3_sumOver_71 : decode cX3_sumOver 71 = .ok (.istore 4, 2) := by decide +kernel
theorem dX3_sumOver_73 : decode cX3_sumOver 73 = .ok (.iinc 6 1, 3) := by decide +kernel
theorem dX3_sumOver_76 : decode cX3_sumOver 76 = .ok (.goto (-34), 3) := by decide +kernel
theorem dX3_sumOver_79 : decode cX3_sumOver 79 = .ok (.iinc 5 1, 3) := by decide +kernel
theorem dX3_sumOver_82 : decode cX3_sumOver 82 = .ok (.goto (-76), 3) := by decide +kernel
theorem dX3_sumOver_85 : decode cX3_sumOver 85 = .ok (.iload 4, 2) := by decide +kernel
theorem dX3_sumOver_87 : decode cX3_sumOver 87 = .ok (.ireturn, 1) := by decide +kernel
theorem dX3_headSum_0 : decode cX3_headSum 0 = .ok (.aload_n 0, 1) := by decide +kernel
theorem dX3_headSum_1 : decode cX3_headSum 1 = .ok (.iconst (-1), 1) := by decide +kernel
theorem dX3_headSum_2 : decode cX3_headSum 2 = .ok (.iconst 0, 1) := by decide +kernel
theorem dX3_headSum_3 : decode cX3_headSum 3 = .ok (.bipush 13, 2) := by decide +kernel
theorem dX3_headSum_5 : decode cX3_headSum 5 = .ok (.invokevirtual 32, 3) := by decide +kernel
theorem dX3_headSum_8 : decode cX3_headSum 8 = .ok (.iconst (-1), 1) := by decide +kernel
theorem dX3_headSum_9 : decode cX3_headSum 9 = .ok (.ixor, 1) := by decide +kernel
theorem dX3_headSum_10 : decode cX3_headSum 10 = .ok (.ireturn, 1) := by decide +kernel
theorem dX3_makeHead_0 : decode cX3_makeHead 0 = .ok (.aload_n 0, 1) := by decide +kernel
theorem dX3_makeHead_1 : decode cX3_makeHead 1 = .ok (.invokevirtual 36, 3) := by decide +kernel
theorem dX3_makeHead_4 : decode cX3_makeHead 4 = .ok (.aload_n 0, 1) := by decide +kernel
theorem dX3_makeHead_5 : decode cX3_makeHead 5 = .ok (.iconst 0, 1) := by decide +kernel
theorem dX3_makeHead_6 : decode cX3_makeHead 6 = .ok (.iload_n 1, 1) := by decide +kernel
theorem dX3_makeHead_7 : decode cX3_makeHead 7 = .ok (.invokevirtual 39, 3) := by decide +kernel
theorem dX3_makeHead_10 : decode cX3_makeHead 10 = .ok (.aload_n 0, 1) := by decide +kernel
theorem dX3_makeHead_11 : decode cX3_makeHead 11 = .ok (.iconst 4, 1) := by decide +kernel
theorem dX3_makeHead_12 : decode cX3_makeHead 12 = .ok (.iload_n 2, 1) := by decide +kernel
theorem dX3_makeHead_13 : decode cX3_makeHead 13 = .ok (.invokevirtual 39, 3) := by decide +kernel
theorem dX3_makeHead_16 : decode cX3_makeHead 16 = .ok (.aload_n 0, 1) := by decide +kernel
theorem dX3_makeHead_17 : decode cX3_makeHead 17 = .ok (.bipush 8, 2) := by decide +kernel
theorem dX3_makeHead_19 : decode cX3_makeHead 19 = .ok (.iload_n 3, 1) := by decide +kernel
theorem dX3_makeHead_20 : decode cX3_makeHead 20 = .ok (.invokevirtual 39, 3) := by decide +kernel
theorem dX3_makeHead_23 : decode cX3_makeHead 23 = .ok (.aload_n 0, 1) := by decide +kernel
theorem dX3_makeHead_24 : decode cX3_makeHead 24 = .ok (.bipush 12, 2) := by decide +kernel
theorem dX3_makeHead_26 : decode cX3_makeHead 26 = .ok (.iload 4, 2) := by decide +kernel
theorem dX3_makeHead_28 : decode cX3_makeHead 28 = .ok (.invokevirtual 19, 3) := by decide +kernel
theorem dX3_makeHead_31 : decode cX3_makeHead 31 = .ok (.aload_n 0, 1) := by decide +kernel
theorem dX3_makeHead_32 : decode cX3_makeHead 32 = .ok (.bipush 13, 2) := by decide +kernel
theorem dX3_makeHead_34 : decode cX3_makeHead 34 = .ok (.aload_n 0, 1) := by decide +kernel
theorem dX3_makeHead_35 : decode cX3_makeHead 35 = .ok (.invokevirtual 42, 3) := by decide +kernel
theorem dX3_makeHead_38 : decode cX3_makeHead 38 = .ok (.invokevirtual 39, 3) := by decide +kernel
theorem dX3_makeHead_41 : decode cX3_makeHead 41 = .ok (.return_, 1) := by decide +kernel
theorem dX3_isGoodHead_0 : decode cX3_isGoodHead 0 = .ok (.aload_n 0, 1) := by decide +kernel
theorem dX3_isGoodHead_1 : decode cX3_isGoodHead 1 = .ok (.getfield 15, 3) := by decide +kernel
theorem dX3_isGoodHead_4 : decode cX3_isGoodHead 4 = .ok (.ifCond .ne 61, 3) := by decide +kernel
theorem dX3_isGoodHead_7 : decode cX3_isGoodHead 7 = .ok (.aload_n 0, 1) := by decide +kernel
theorem dX3_isGoodHead_8 : decode cX3_isGoodHead 8 = .ok (.bipush 13, 2) := by decide +kernel
theorem dX3_isGoodHead_10 : decode cX3_isGoodHead 10 = .ok (.invokevirtual 46, 3) := by decide +kernel
theorem dX3_isGoodHead_13 : decode cX3_isGoodHead 13 = .ok (.aload_n 0, 1) := by decide +kernel
theorem dX3_isGoodHead_14 : decode cX3_isGoodHead 14 = .ok (.invokevirtual 42, 3) := by decide +kernel
theorem dX3_isGoodHead_17 : decode cX3_isGoodHead 17 = .ok (.if_icmp .ne 48, 3) := by decide +kernel
theorem dX3_isGoodHead_20 : decode cX3_isGoodHead 20 = .ok (.aload_n 0, 1) := by decide +kernel
theorem dX3_isGoodHead_21 : decode cX3_isGoodHead 21 = .ok (.invokevirtual 49, 3) := by decide +kernel
theorem dX3_isGoodHead_24 : decode cX3_isGoodHead 24 = .ok (.ifCond .eq 41, 3) := by decide +kernel
theorem dX3_isGoodHead_27 : decode cX3_isGoodHead 27 = .ok (.aload_n 0, 1) := by decide +kernel
theorem dX3_isGoodHead_28 : decode cX3_isGoodHead 28 = .ok (.invokevirtual 52, 3) := by decide +kernel
theorem dX3_isGoodHead_31 : decode cX3_isGoodHead 31 = .ok (.iconst 1, 1) := by decide +kernel
theorem dX3_isGoodHead_32 : decode cX3_isGoodHead 32 = .ok (.if_icmp .lt 33, 3) := by decide +kernel
theorem dX3_isGoodHead_35 : decode cX3_isGoodHead 35 = .ok (.aload_n 0, 1) := by decide +kernel
theorem dX3_isGoodHead_36 : decode cX3_isGoodHead 36 = .ok (.invokevirtual 52, 3) := by decide +kernel
theorem dX3_isGoodHead_39 : decode cX3_isGoodHead 39 = .ok (.ldc 55, 2) := by decide +kernel
theorem dX3_isGoodHead_41 : decode cX3_isGoodHead 41 = .ok (.if_icmp .gt 24, 3) := by decide +kernel
theorem dX3_isGoodHead_44 : decode cX3_isGoodHead 44 = .ok (.aload_n 0, 1) := by decide +kernel
theorem dX3_isGoodHead_45 : decode cX3_isGoodHead 45 = .ok (.invokevirtual 56, 3) := by decide +kernel
theorem dX3_isGoodHead_48 : decode cX3_isGoodHead 48 = .ok (.iconst 2, 1) := by decide +kernel
theorem dX3_isGoodHead_49 : decode cX3_isGoodHead 49 = .ok (.if_icmp .lt 16, 3) := by decide +kernel
theorem dX3_isGoodHead_52 : decode cX3_isGoodHead 52 = .ok (.aload_n 0, 1) := by decide +kernel
theorem dX3_isGoodHead_53 : decode cX3_isGoodHead 53 = .ok (.invokevirtual 56, 3) := by decide +kernel
theorem dX3_isGoodHead_56 : decode cX3_isGoodHead 56 = .ok (.bipush 64, 2) := by decide +kernel
theorem dX3_isGoodHead_58 : decode cX3_isGoodHead 58 = .ok (.if_icmp .ge 7, 3) := by decide +kernel
theorem dX3_isGoodHead_61 : decode cX3_isGoodHead 61 = .ok (.iconst 1, 1) := by decide +kernel
theorem dX3_isGoodHead_62 : decode cX3_isGoodHead 62 = .ok (.goto 4, 3) := by decide +kernel
theorem dX3_isGoodHead_65 : decode cX3_isGoodHead 65 = .ok (.iconst 0, 1) := by decide +kernel
theorem dX3_isGoodHead_66 : decode cX3_isGoodHead 66 = .ok (.ireturn, 1) := by decide +kernel
theorem dX3_headVersion_0 : decode cX3_headVersion 0 = .ok (.aload_n 0, 1) := by decide +kernel
theorem dX3_headVersion_1 : decode cX3_headVersion 1 = .ok (.iconst 0, 1) := by decide +kernel
theorem dX3_headVersion_2 : decode cX3_headVersion 2 = .ok (.invokevirtual 46, 3) := by decide +kernel
theorem dX3_headVersion_5 : decode cX3_headVersion 5 = .ok (.ireturn, 1) := by decide +kernel
theorem dX3_headRecord_0 : decode cX3_headRecord 0 = .ok (.aload_n 0, 1) := by decide +kernel
theorem dX3_headRecord_1 : decode cX3_headRecord 1 = .ok (.bipush 8, 2) := by decide +kernel
theorem dX3_headRecord_3 : decode cX3_headRecord 3 = .ok (.invokevirtual 46, 3) := by decide +kernel
theorem dX3_headRecord_6 : decode cX3_headRecord 6 = .ok (.ireturn, 1) := by decide +kernel
theorem dX3_headPlace_0 : decode cX3_headPlace 0 = .ok (.aload_n 0, 1) := by decide +kernel
theorem dX3_headPlace_1 : decode cX3_headPlace 1 = .ok (.bipush 12, 2) := by decide +kernel
theorem dX3_headPlace_3 : decode cX3_headPlace 3 = .ok (.invokevirtual 27, 3) := by decide +kernel
theorem dX3_headPlace_6 : decode cX3_headPlace 6 = .ok (.ireturn, 1) := by decide +kernel
theorem dX4_init_0 : decode cX4_init 0 = .ok (.aload_n 0, 1) := by decide +kernel
theorem dX4_init_1 : decode cX4_init 1 = .ok (.invokespecial 3, 3) := by decide +kernel
theorem dX4_init_4 : decode cX4_init 4 = .ok (.aload_n 0, 1) := by decide +kernel
theorem dX4_init_5 : decode cX4_init 5 = .ok (.bipush 64, 2) := by decide +kernel
theorem dX4_init_7 : decode cX4_init 7 = .ok (.anewarray 9, 3) := by decide +kernel
theorem dX4_init_10 : decode cX4_init 10 = .ok (.putfield 11, 3) := by decide +kernel
theorem dX4_init_13 : decode cX4_init 13 = .ok (.iconst 0, 1) := by decide +kernel
theorem dX4_init_14 : decode cX4_init 14 = .ok (.istore_n 1, 1) := by decide +kernel
theorem dX4_init_15 : decode cX4_init 15 = .ok (.iload_n 1, 1) := by decide +kernel
theorem dX4_init_16 : decode cX4_init 16 = .ok (.aload_n 0, 1) := by decide +kernel
theorem dX4_init_17 : decode cX4_init 17 = .ok (.getfield 11, 3) := by decide +kernel
theorem dX4_init_20 : decode cX4_init 20 = .ok (.arraylength, 1) := by decide +kernel
theorem dX4_init_21 : decode cX4_init 21 = .ok (.if_icmp .ge 22, 3) := by decide +kernel
theorem dX4_init_24 : decode cX4_init 24 = .ok (.aload_n 0, 1) := by decide +kernel
theorem dX4_init_25 : decode cX4_init 25 = .ok (.getfield 11, 3) := by decide +kernel
theorem dX4_init_28 : decode cX4_init 28 = .ok (.iload_n 1, 1) := by decide +kernel
theorem dX4_init_29 : decode cX4_init 29 = .ok (.new 9, 3) := by decide +kernel
theorem dX4_init_32 : decode cX4_init 32 = .ok (.dup, 1) := by decide +kernel
theorem dX4_init_33 : decode cX4_init 33 = .ok (.invokespecial 17, 3) := by decide +kernel
theorem dX4_init_36 : decode cX4_init 36 = .ok (.aastore, 1) := by decide +kernel
theorem dX4_init_37 : decode cX4_init 37 = .ok (.iinc 1 1, 3) := by decide +kernel
theorem dX4_init_40 : decode cX4_init 40 = .ok (.goto (-25), 3) := by decide +kernel
theorem dX4_init_43 : decode cX4_init 43 = .ok (.aload_n 0, 1) := by decide +kernel
theorem dX4_init_44 : decode cX4_init 44 = .ok (.iconst 0, 1) := by decide +kernel
theorem dX4_init_45 : decode cX4_init 45 = .ok (.putfield 18, 3) := by decide +kernel
theorem dX4_init_48 : decode cX4_init 48 = .ok (.aload_n 0, 1) := by decide +kernel
theorem dX4_init_49 : decode cX4_init 49 = .ok (.iconst (-1), 1) := by decide +kernel
theorem dX4_init_50 : decode cX4_init 50 = .ok (.putfield 22, 3) := by decide +kernel
theorem dX4_init_53 : decode cX4_init 53 = .ok (.aload_n 0, 1) := by decide +kernel
theorem dX4_init_54 : decode cX4_init 54 = .ok (.iconst 0, 1) := by decide +kernel
theorem dX4_init_55 : decode cX4_init 55 = .ok (.putfield 25, 3) := by decide +kernel
theorem dX4_init_58 : decode cX4_init 58 = .ok (.return_, 1) := by decide +kernel
theorem dX4_sector_0 : decode cX4_sector 0 = .ok (.aload_n 0, 1) := by decide +kernel
theorem dX4_sector_1 : decode cX4_sector 1 = .ok (.getfield 11, 3) := by decide +kernel
theorem dX4_sector_4 : decode cX4_sector 4 = .ok (.iload_n 1, 1) := by decide +kernel
theorem dX4_sector_5 : decode cX4_sector 5 = .ok (.ifCond .lt 16, 3) := by decide +kernel
theorem dX4_sector_8 : decode cX4_sector 8 = .ok (.iload_n 1, 1) := by decide +kernel
theorem dX4_sector_9 : decode cX4_sector 9 = .ok (.aload_n 0, 1) := by decide +kernel
theorem dX4_sector_10 : decode cX4_sector 10 = .ok (.getfield 11, 3) := by decide +kernel
theorem dX4_sector_13 : decode cX4_sector 13 = .ok (.arraylength, 1) := by decide +kernel
theorem dX4_sector_14 : decode cX4_sector 14 = .ok (.if_icmp .ge 7, 3) := by decide +kernel
theorem dX4_sector_17 : decode cX4_sector 17 = .ok (.iload_n 1, 1) := by decide +kernel
theorem dX4_sector_18 : decode cX4_sector 18 = .ok (.goto 4, 3) := by decide +kernel
theorem dX4_sector_21 : decode cX4_sector 21 = .ok (.iconst 0, 1) := by decide +kernel
theorem dX4_sector_22 : decode cX4_sector 22 = .ok (.aaload, 1) := by decide +kernel
theorem dX4_sector_23 : decode cX4_sector 23 = .ok (.areturn, 1) := by decide +kernel
theorem dX4_write_0 : decode cX4_write 0 = .ok (.aload_n 0, 1) := by decide +kernel
theorem dX4_write_1 : decode cX4_write 1 = .ok (.getfield 22, 3) := by decide +kernel
theorem dX4_write_4 : decode cX4_write 4 = .ok (.ifCond .ne 18, 3) := by decide +kernel
theorem dX4_write_7 : decode cX4_write 7 = .ok (.aload_n 0, 1) := by decide +kernel
theorem dX4_write_8 : decode cX4_write 8 = .ok (.iload_n 1, 1) := by decide +kernel
theorem dX4_write_9 : decode cX4_write 9 = .ok (.invokevirtual 28, 3) := by decide +kernel
theorem dX4_write_12 : decode cX4_write 12 = .ok (.aload_n 2, 1) := by decide +kernel
theorem dX4_write_13 : decode cX4_write 13 = .ok (.aload_n 0, 1) := by decide +kernel
theorem dX4_write_14 : decode cX4_write 14 = .ok (.getfield 25, 3) := by decide +kernel
theorem dX4_write_17 : decode cX4_write 17 = .ok (.invokevirtual 32, 3) := by decide +kernel
theorem dX4_write_20 : decode cX4_write 20 = .ok (.iconst 0, 1) := by decide +kernel
theorem dX4_write_21 : decode cX4_write 21 = .ok (.ireturn, 1) := by decide +kernel
theorem dX4_write_22 : decode cX4_write 22 = .ok (.aload_n 0, 1) := by decide +kernel
theorem dX4_write_23 : decode cX4_write 23 = .ok (.getfield 22, 3) := by decide +kernel
theorem dX4_write_26 : decode cX4_write 26 = .ok (.ifCond .le 13, 3) := by decide +kernel
theorem dX4_write_29 : decode cX4_write 29 = .ok (.aload_n 0, 1) := by decide +kernel
theorem dX4_write_30 : decode cX4_write 30 = .ok (.dup, 1) := by decide +kernel
theorem dX4_write_31 : decode cX4_write 31 = .ok (.getfield 22, 3) := by decide +kernel
theorem dX4_write_34 : decode cX4_write 34 = .ok (.iconst 1, 1) := by decide +kernel
theorem dX4_write_35 : decode cX4_write 35 = .ok (.isub, 1) := by decide +kernel
theorem dX4_write_36 : decode cX4_write 36 = .ok (.putfield 22, 3) := by decide +kernel
theorem dX4_write_39 : decode cX4_write 39 = .ok (.aload_n 0, 1) := by decide +kernel
theorem dX4_write_40 : decode cX4_write 40 = .ok (.iload_n 1, 1) := by decide +kernel
theorem dX4_write_41 : decode cX4_write 41 = .ok (.invokevirtual 28, 3) := by decide +kernel
theorem dX4_write_44 : decode cX4_write 44 = .ok (.aload_n 2, 1) := by decide +kernel
theorem dX4_write_45 : decode cX4_write 45 = .ok (.invokevirtual 36, 3) := by decide +kernel
theorem dX4_write_48 : decode cX4_write 48 = .ok (.aload_n 0, 1) := by decide +kernel
theorem dX4_write_49 : decode cX4_write 49 = .ok (.dup, 1) := by decide +kernel
theorem dX4_write_50 : decode cX4_write 50 = .ok (.getfield 18, 3) := by decide +kernel
theorem dX4_write_53 : decode cX4_write 53 = .ok (.iconst 1, 1) := by decide +kernel
theorem dX4_write_54 : decode cX4_write 54 = .ok (.iadd, 1) := by decide +kernel
theorem dX4_write_55 : decode cX4_write 55 = .ok (.putfield 18, 3) := by decide +kernel
theorem dX4_write_58 : decode cX4_write 58 = .ok (.iconst 1, 1) := by decide +kernel
theorem dX4_write_59 : decode cX4_write 59 = .ok (.ireturn, 1) := by decide +kernel
theorem dX4_latestHead_0 : decode cX4_latestHead 0 = .ok (.aload_n 0, 1) := by decide +kernel
theorem dX4_latestHead_1 : decode cX4_latestHead 1 = .ok (.iconst 0, 1) := by decide +kernel
theorem dX4_latestHead_2 : decode cX4_latestHead 2 = .ok (.invokevirtual 28, 3) := by decide +kernel
theorem dX4_latestHead_5 : decode cX4_latestHead 5 = .ok (.invokevirtual 40, 3) := by decide +kernel
theorem dX4_latestHead_8 : decode cX4_latestHead 8 = .ok (.istore_n 1, 1) := by decide +kernel
theorem dX4_latestHead_9 : decode cX4_latestHead 9 = .ok (.aload_n 0, 1) := by decide +kernel
theorem dX4_latestHead_10 : decode cX4_latestHead 10 = .ok (.iconst 1, 1) := by decide +kernel
theorem dX4_latestHead_11 : decode cX4_latestHead 11 = .ok (.invokevirtual 28, 3) := by decide +kernel
theorem dX4_latestHead_14 : decode cX4_latestHead 14 = .ok (.invokevirtual 40, 3) := by decide +kernel
theorem dX4_latestHead_17 : decode cX4_latestHead 17 = .ok (.istore_n 2, 1) := by decide +kernel
theorem dX4_latestHead_18 : decode cX4_latestHead 18 = .ok (.iload_n 1, 1) := by decide +kernel
theorem dX4_latestHead_19 : decode cX4_latestHead 19 = .ok (.ifCond .eq 35, 3) := by decide +kernel
theorem dX4_latestHead_22 : decode cX4_latestHead 22 = .ok (.iload_n 2, 1) := by decide +kernel
theorem dX4_latestHead_23 : decode cX4_latestHead 23 = .ok (.ifCond .eq 31, 3) := by decide +kernel
theorem dX4_latestHead_26 : decode cX4_latestHead 26 = .ok (.aload_n 0, 1) := by decide +kernel
theorem dX4_latestHead_27 : decode cX4_latestHead 27 = .ok (.iconst 0, 1) := by decide +kernel
theorem dX4_latestHead_28 : decode cX4_latestHead 28 = .ok (.invokevirtual 28, 3) := by decide +kernel
theorem dX4_latestHead_31 : decode cX4_latestHead 31 = .ok (.invokevirtual 44, 3) := by decide +kernel
theorem dX4_latestHead_34 : decode cX4_latestHead 34 = .ok (.aload_n 0, 1) := by decide +kernel
theorem dX4_latestHead_35 : decode cX4_latestHead 35 = .ok (.iconst 1, 1) := by decide +kernel
theorem dX4_latestHead_36 : decode cX4_latestHead 36 = .ok (.invokevirtual 28, 3) := by decide +kernel
theorem dX4_latestHead_39 : decode cX4_latestHead 39 = .ok (.invokevirtual 44, 3) := by decide +kernel
theorem dX4_latestHead_42 : decode cX4_latestHead 42 = .ok (.invokestatic 48, 3) := by decide +kernel
theorem dX4_latestHead_45 : decode cX4_latestHead 45 = .ok (.ifCond .eq 7, 3) := by decide +kernel
theorem dX4_latestHead_48 : decode cX4_latestHead 48 = .ok (.iconst 1, 1) := by decide +kernel
theorem dX4_latestHead_49 : decode cX4_latestHead 49 = .ok (.goto 4, 3) := by decide +kernel
theorem dX4_latestHead_52 : decode cX4_latestHead 52 = .ok (.iconst 0, 1) := by decide +kernel
theorem dX4_latestHead_53 : decode cX4_latestHead 53 = .ok (.ireturn, 1) := by decide +kernel
theorem dX4_latestHead_54 : decode cX4_latestHead 54 = .ok (.iload_n 1, 1) := by decide +kernel
theorem dX4_latestHead_55 : decode cX4_latestHead 55 = .ok (.ifCond .eq 7, 3) := by decide +kernel
theorem dX4_latestHead_58 : decode cX4_latestHead 58 = .ok (.iconst 0, 1) := by decide +kernel
theorem dX4_latestHead_59 : decode cX4_latestHead 59 = .ok (.goto 12, 3) := by decide +kernel
theorem dX4_latestHead_62 : decode cX4_latestHead 62 = .ok (.iload_n 2, 1) := by decide +kernel
theorem dX4_latestHead_63 : decode cX4_latestHead 63 = .ok (.ifCond .eq 7, 3) := by decide +kernel
theorem dX4_latestHead_66 : decode cX4_latestHead 66 = .ok (.iconst 1, 1) := by decide +kernel
theorem dX4_latestHead_67 : decode cX4_latestHead 67 = .ok (.goto 4, 3) := by decide +kernel
theorem dX4_latestHead_70 : decode cX4_latestHead 70 = .ok (.iconst (-1), 1) := by decide +kernel
theorem dX4_latestHead_71 : decode cX4_latestHead 71 = .ok (.ireturn, 1) := by decide +kernel
theorem dX4_headVersion_0 : decode cX4_headVersion 0 = .ok (.aload_n 0, 1) := by decide +kernel
theorem dX4_headVersion_1 : decode cX4_headVersion 1 = .ok (.invokevirtual 52, 3) := by decide +kernel
theorem dX4_headVersion_4 : decode cX4_headVersion 4 = .ok (.istore_n 1, 1) := by decide +kernel
theorem dX4_headVersion_5 : decode cX4_headVersion 5 = .ok (.iload_n 1, 1) := by decide +kernel
theorem dX4_headVersion_6 : decode cX4_headVersion 6 = .ok (.iconst (-1), 1) := by decide +kernel
theorem dX4_headVersion_7 : decode cX4_headVersion 7 = .ok (.if_icmp .ne 7, 3) := by decide +kernel
theorem dX4_headVersion_10 : decode cX4_headVersion 10 = .ok (.iconst 0, 1) := by decide +kernel
theorem dX4_headVersion_11 : decode cX4_headVersion 11 = .ok (.goto 11, 3) := by decide +kernel
theorem dX4_headVersion_14 : decode cX4_headVersion 14 = .ok (.aload_n 0, 1) := by decide +kernel
theorem dX4_headVersion_15 : decode cX4_headVersion 15 = .ok (.iload_n 1, 1) := by decide +kernel
theorem dX4_headVersion_16 : decode cX4_headVersion 16 = .ok (.invokevirtual 28, 3) := by decide +kernel
theorem dX4_headVersion_19 : decode cX4_headVersion 19 = .ok (.invokevirtual 44, 3) := by decide +kernel
theorem dX4_headVersion_22 : decode cX4_headVersion 22 = .ok (.ireturn, 1) := by decide +kernel
end
section
set_option maxRecDepth 20000 in
theorem ggX5_init_X4_init : GoodIn wsX5_init wsX4_init := goodIn_r _ [32, 33, 2, 3, 34, 35, 21, 22, 36, 37, 38, 39, 40, 41, 42, 24, 43, 44, 109, 110, 111, 112, 140, 141] (by decide +kernel) (by decide +kernel)
set_option maxRecDepth 20000 in
theorem gX5_init_X4_init : GoodIn wsX5_init (wsX4_init) := ggX5_init_X4_init
set_option maxRecDepth 20000 in
theorem ggX5_init_X1_init : GoodIn wsX5_init wsX1_init := goodIn_r _ [47, 48, 2, 3, 24, 49, 50, 51, 52, 123, 124, 125, 126] (by decide +kernel) (by decide +kernel)
set_option maxRecDepth 20000 in
theorem gX5_init_X1_init : GoodIn wsX5_init (wsX1_init) := ggX5_init_X1_init
set_option maxRecDepth 20000 in
theorem ggX5_init_X0_init : GoodIn wsX5_init wsX0_init := goodIn_r _ [55, 56, 2, 3, 24, 57, 58, 59, 60, 14, 61, 62, 63, 64, 65, 66, 67, 68, 127, 128, 129, 130, 131, 132, 133, 134] (by decide +kernel) (by decide +kernel)
set_option maxRecDepth 20000 in
theorem gX5_init_X0_init : GoodIn wsX5_init (wsX0_init) := ggX5_init_X0_init
set_option maxRecDepth 20000 in
theorem ggX5_init_X2_init : GoodIn wsX5_init wsX2_init := goodIn_r _ [71, 72, 2, 3, 24, 73, 74, 75, 76, 77, 135, 136, 137, 138, 139] (by decide +kernel) (by decide +kernel)
set_option maxRecDepth 20000 in
theorem gX5_init_X2_init : GoodIn wsX5_init (wsX2_init) := ggX5_init_X2_init
set_option maxRecDepth 20000 in
theorem ggX5_init_X3_init : GoodIn wsX5_init wsX3_init := goodIn_r _ [41, 42, 2, 3, 24, 43, 44, 140, 141] (by decide +kernel) (by decide +kernel)
set_option maxRecDepth 20000 in
theorem gX5_init_X3_init : GoodIn wsX5_init (wsX3_init) := ggX5_init_X3_init
set_option maxRecDepth 20000 in
theorem ggX5_init_X4_sector : GoodIn wsX5_init wsX4_sector := goodIn_r _ [82, 35, 109, 110, 111, 112] (by decide +kernel) (by decide +kernel)
set_option maxRecDepth 20000 in
theorem gX5_init_X4_sector : GoodIn wsX5_init (wsV RX5 62 RX4 yX4_sector wsX4_sector) := goodIn_app (goodIn_of _ (by decide +kernel)) ggX5_init_X4_sector
set_option maxRecDepth 20000 in
theorem ggX5_init_X3_makeHead : GoodIn wsX5_init wsX3_makeHead := goodIn_r _ [86, 87, 88, 89, 22, 90, 43, 91, 92, 93, 94, 95, 96, 97, 98, 99, 100, 101, 102, 103, 104, 105, 106, 107, 140, 141] (by decide +kernel) (by decide +kernel)
set_option maxRecDepth 20000 in
theorem gX5_init_X3_makeHead : GoodIn wsX5_init (wsV RX5 66 RX3 yX3_makeHead wsX3_makeHead) := goodIn_app (goodIn_of _ (by decide +kernel)) ggX5_init_X3_makeHead
set_option maxRecDepth 20000 in
theorem ggX5_init_X0_openAt : GoodIn wsX5_init wsX0_openAt := goodIn_r _ [61, 62, 63, 64, 65, 66, 67, 68, 127, 128, 129, 130, 131, 132, 133, 134] (by decide +kernel) (by decide +kernel)
set_option maxRecDepth 20000 in
theorem gX5_init_X0_openAt : GoodIn wsX5_init (wsV RX5 70 RX0 yX0_openAt wsX0_openAt) := goodIn_app (goodIn_of _ (by decide +kernel)) ggX5_init_X0_openAt
set_option maxRecDepth 20000 in
theorem ggX5_delay_X5_isTicks : GoodIn wsX5_delay wsX5_isTicks := goodIn_r _ [6] (by decide +kernel) (by decide +kernel)
set_option maxRecDepth 20000 in
theorem gX5_delay_X5_isTicks : GoodIn wsX5_delay (va_wsS RX5 74 yX5_isTicks wsX5_isTicks) := goodIn_app (goodIn_of _ (by decide +kernel)) ggX5_delay_X5_isTicks
set_option maxRecDepth 20000 in
theorem ggX5_flush_X5_writeQueue : GoodIn wsX5_flush wsX5_writeQueue := goodIn_r _ [6, 7, 8, 9, 1, 10, 11, 12, 13, 14, 15, 16, 17, 18, 19, 20, 21, 22, 23, 24, 25, 26, 27, 28, 29, 30, 31, 32, 33, 34, 35, 36, 37, 38, 39, 40, 41, 42, 43, 44, 45, 46, 47, 48, 49, 50, 51, 52, 53, 54, 55, 56, 57, 58, 59, 60, 61, 62, 63, 64, 65, 66, 67, 68, 69, 70, 5, 71, 72, 73, 74, 75, 76, 77, 78, 79, 80, 81, 82, 83, 84, 85, 86, 87, 88, 89, 90, 91, 92, 93, 94, 95, 96, 97, 98, 99, 100, 101, 102, 103, 104, 105, 106, 107, 108, 109, 110, 111, 112, 113, 114, 115, 116, 117, 118, 119, 120, 121, 122, 123, 124, 125, 126, 127, 128, 129, 130, 131, 132, 133, 134, 135, 136, 137, 138, 139, 140, 141, 142, 143, 144, 145, 146, 147, 148, 149, 150, 151, 152, 153, 154, 155, 156, 157, 158, 159, 160, 161, 162, 163, 164, 165, 166, 167, 168, 169, 170, 171, 172, 173, 174, 175, 176, 177, 178, 179, 180, 181, 182, 183, 184, 185, 186, 187, 188, 189, 190, 191, 192, 193, 194, 195, 196, 197, 198, 199, 200, 201, 202] (by decide +kernel) (by decide +kernel)
set_option maxRecDepth 20000 in
theorem gX5_flush_X5_writeQueue : GoodIn wsX5_flush (wsV RX5 98 RX5 yX5_writeQueue wsX5_writeQueue) := goodIn_app (goodIn_of _ (by decide +kernel)) ggX5_flush_X5_writeQueue
set_option maxRecDepth 20000 in
theorem ggX5_tick_X5_isTicks : GoodIn wsX5_tick wsX5_isTicks := goodIn_r _ [7] (by decide +kernel) (by decide +kernel)
set_option maxRecDepth 20000 in
theorem gX5_tick_X5_isTicks : GoodIn wsX5_tick (va_wsS RX5 74 yX5_isTicks wsX5_isTicks) := goodIn_app (goodIn_of _ (by decide +kernel)) ggX5_tick_X5_isTicks
set_option maxRecDepth 20000 in
theorem ggX5_checkpoint_X0_placeOf : GoodIn wsX5_checkpoint wsX0_placeOf := goodIn_r _ [8, 9, 10, 11, 12, 13, 7, 14, 15, 16, 17, 18, 169, 170, 171, 172, 173, 174, 175, 176] (by decide +kernel) (by decide +kernel)
set_option maxRecDepth 20000 in
theorem gX5_checkpoint_X0_placeOf : GoodIn wsX5_checkpoint (wsV RX5 108 RX0 yX0_placeOf wsX0_placeOf) := goodIn_app (goodIn_of _ (by decide +kernel)) ggX5_checkpoint_X0_placeOf
set_option maxRecDepth 20000 in
theorem ggX5_checkpoint_X0_firstBeginningWith : GoodIn wsX5_checkpoint wsX0_firstBeginningWith := goodIn_r _ [22, 23, 24, 25, 7, 26, 27, 9, 28, 5, 6, 8, 10, 11, 12, 13, 14, 15, 16, 17, 18, 169, 170, 171, 172, 173, 174, 175, 176] (by decide +kernel) (by decide +kernel)
set_option maxRecDepth 20000 in
theorem gX5_checkpoint_X0_firstBeginningWith : GoodIn wsX5_checkpoint (wsV RX5 111 RX0 yX0_firstBeginningWith wsX0_firstBeginningWith) := goodIn_app (goodIn_of _ (by decide +kernel)) ggX5_checkpoint_X0_firstBeginningWith
set_option maxRecDepth 20000 in
theorem ggX5_checkpoint_X5_writeHead : GoodIn wsX5_checkpoint wsX5_writeHead := goodIn_r _ [49, 3, 50, 51, 52, 53, 32, 54, 55, 56, 57, 58, 59, 30, 31, 33, 34, 60, 61, 62, 38, 63, 64, 65, 40, 41, 42, 43, 44, 66, 67, 68, 69, 70, 71, 72, 73, 74, 75, 76, 77, 78, 79, 80, 81, 82, 83, 84, 85, 86, 87, 88, 89, 90, 91, 92, 48, 93, 94, 95, 96, 97, 98, 99, 100, 101, 102, 103, 104, 105, 106, 107, 108, 109, 110, 111, 112, 113, 114, 115, 116, 117, 118, 119, 120, 121, 122, 123, 124, 125, 126, 127, 128, 129, 130, 131, 132, 133, 134, 135, 136, 137, 138, 1, 139, 140, 141, 142, 143, 144, 145, 146, 147, 159, 160, 161, 162, 163, 164, 165, 166, 167, 168, 177, 178, 179, 180, 181, 182, 183, 184, 185, 186] (by decide +kernel) (by decide +kernel)
set_option maxRecDepth 20000 in
theorem gX5_checkpoint_X5_writeHead : GoodIn wsX5_checkpoint (wsV RX5 120 RX5 yX5_writeHead wsX5_writeHead) := goodIn_app (goodIn_of _ (by decide +kernel)) ggX5_checkpoint_X5_writeHead
set_option maxRecDepth 20000 in
theorem ggX5_checkpoint_X0_giveUpBefore : GoodIn wsX5_checkpoint wsX0_giveUpBefore := goodIn_r _ [151, 9, 152, 153, 27, 154, 155, 156, 157, 158, 169, 170, 171, 172, 173, 174, 175, 176] (by decide +kernel) (by decide +kernel)
set_option maxRecDepth 20000 in
theorem gX5_checkpoint_X0_giveUpBefore : GoodIn wsX5_checkpoint (wsV RX5 124 RX0 yX0_giveUpBefore wsX0_giveUpBefore) := goodIn_app (goodIn_of _ (by decide +kernel)) ggX5_checkpoint_X0_giveUpBefore
set_option maxRecDepth 20000 in
theorem ggX5_cut_X5_powerGoes : GoodIn wsX5_cut wsX5_powerGoes := goodIn_r _ [6, 1, 7, 8, 9, 10, 11, 12, 13, 14, 15, 16, 17, 18, 19, 20, 21, 22, 23, 24, 25, 26, 27, 28, 29, 30, 31, 32, 33, 34] (by decide +kernel) (by decide +kernel)
set_option maxRecDepth 20000 in
theorem gX5_cut_X5_powerGoes : GoodIn wsX5_cut (wsV RX5 128 RX5 yX5_powerGoes wsX5_powerGoes) := goodIn_app (goodIn_of _ (by decide +kernel)) ggX5_cut_X5_powerGoes
set_option maxRecDepth 20000 in
theorem ggX5_size_X0_has : GoodIn wsX5_size wsX0_has := goodIn_r _ [8, 9, 10, 69, 70, 71, 72, 73, 74, 75, 76] (by decide +kernel) (by decide +kernel)
set_option maxRecDepth 20000 in
theorem gX5_size_X0_has : GoodIn wsX5_size (wsV RX5 156 RX0 yX0_has wsX0_has) := goodIn_app (goodIn_of _ (by decide +kernel)) ggX5_size_X0_has
set_option maxRecDepth 20000 in
theorem ggX5_at_X0_has : GoodIn wsX5_at wsX0_has := goodIn_r _ [8, 9, 10, 70, 71, 72, 73, 74, 75, 76, 77] (by decide +kernel) (by decide +kernel)
set_option maxRecDepth 20000 in
theorem gX5_at_X0_has : GoodIn wsX5_at (wsV RX5 156 RX0 yX0_has wsX0_has) := goodIn_app (goodIn_of _ (by decide +kernel)) ggX5_at_X0_has
set_option maxRecDepth 20000 in
theorem ggX5_disk_X5_isByte : GoodIn wsX5_disk wsX5_isByte := goodIn_r _ [5] (by decide +kernel) (by decide +kernel)
set_option maxRecDepth 20000 in
theorem gX5_disk_X5_isByte : GoodIn wsX5_disk (va_wsS RX5 167 yX5_isByte wsX5_isByte) := goodIn_app (goodIn_of _ (by decide +kernel)) ggX5_disk_X5_isByte
set_option maxRecDepth 20000 in
theorem ggX5_disk_X4_sector : GoodIn wsX5_disk wsX4_sector := goodIn_r _ [10, 11, 28, 29, 30, 31] (by decide +kernel) (by decide +kernel)
set_option maxRecDepth 20000 in
theorem gX5_disk_X4_sector : GoodIn wsX5_disk (wsV RX5 62 RX4 yX4_sector wsX4_sector) := goodIn_app (goodIn_of _ (by decide +kernel)) ggX5_disk_X4_sector
set_option maxRecDepth 20000 in
theorem ggX5_disk_X3_get : GoodIn wsX5_disk wsX3_get := goodIn_r _ [16, 17, 32, 33] (by decide +kernel) (by decide +kernel)
set_option maxRecDepth 20000 in
theorem gX5_disk_X3_get : GoodIn wsX5_disk (wsV RX5 171 RX3 yX3_get wsX3_get) := goodIn_app (goodIn_of _ (by decide +kernel)) ggX5_disk_X3_get
set_option maxRecDepth 20000 in
theorem ggX5_torn_X5_isByte : GoodIn wsX5_torn wsX5_isByte := goodIn_r _ [5] (by decide +kernel) (by decide +kernel)
set_option maxRecDepth 20000 in
theorem gX5_torn_X5_isByte : GoodIn wsX5_torn (va_wsS RX5 167 yX5_isByte wsX5_isByte) := goodIn_app (goodIn_of _ (by decide +kernel)) ggX5_torn_X5_isByte
set_option maxRecDepth 20000 in
theorem ggX5_torn_X4_sector : GoodIn wsX5_torn wsX4_sector := goodIn_r _ [10, 11, 24, 25, 26, 27] (by decide +kernel) (by decide +kernel)
set_option maxRecDepth 20000 in
theorem gX5_torn_X4_sector : GoodIn wsX5_torn (wsV RX5 62 RX4 yX4_sector wsX4_sector) := goodIn_app (goodIn_of _ (by decide +kernel)) ggX5_torn_X4_sector
set_option maxRecDepth 20000 in
theorem ggX5_count_X5_countWhileOn : GoodIn wsX5_count wsX5_countWhileOn := goodIn_r _ [8, 9, 10, 2, 11, 12, 13, 14, 15, 16, 17, 18, 19, 20, 21, 22, 23, 24, 25, 26, 27, 28, 29, 30, 31, 32, 33, 34, 35, 36, 37, 38, 39, 40, 41, 42, 43, 44, 45, 46, 47, 48, 49, 50, 51, 52, 53, 54, 55, 56, 57, 58, 59, 60, 61, 62, 63, 7, 64, 65, 66, 67, 68, 69, 70, 71, 72, 73, 74, 75, 80, 81, 82, 83, 84, 85, 86, 87, 88, 89, 90, 91, 76, 77, 78, 79, 92, 93] (by decide +kernel) (by decide +kernel)
set_option maxRecDepth 20000 in
theorem gX5_count_X5_countWhileOn : GoodIn wsX5_count (wsV RX5 184 RX5 yX5_countWhileOn wsX5_countWhileOn) := goodIn_app (goodIn_of _ (by decide +kernel)) ggX5_count_X5_countWhileOn
set_option maxRecDepth 20000 in
theorem ggX5_countWhileOn_X4_headVersion : GoodIn wsX5_countWhileOn wsX4_headVersion := goodIn_r _ [8, 9, 10, 11, 7, 12, 13, 14, 15, 16, 17, 18, 19, 20, 21, 22, 23, 24, 25, 26, 27, 28, 29, 30, 31, 32, 33, 34, 35, 36, 37, 38, 39, 40, 41, 42, 43, 44, 45, 46, 47, 48, 49, 50, 51, 52, 53, 54, 55, 56, 57, 58, 59, 82, 83, 84, 85, 86, 87] (by decide +kernel) (by decide +kernel)
set_option maxRecDepth 20000 in
theorem gX5_countWhileOn_X4_headVersion : GoodIn wsX5_countWhileOn (wsV RX5 190 RX4 yX4_headVersion wsX4_headVersion) := goodIn_app (goodIn_of _ (by decide +kernel)) ggX5_countWhileOn_X4_headVersion
set_option maxRecDepth 20000 in
theorem ggX5_powerGoes_X1_empty : GoodIn wsX5_powerGoes wsX1_empty := goodIn_r _ [8, 9, 10, 11, 26, 27, 28, 29] (by decide +kernel) (by decide +kernel)
set_option maxRecDepth 20000 in
theorem gX5_powerGoes_X1_empty : GoodIn wsX5_powerGoes (wsV RX5 201 RX1 yX1_empty wsX1_empty) := goodIn_app (goodIn_of _ (by decide +kernel)) ggX5_powerGoes_X1_empty
set_option maxRecDepth 20000 in
theorem ggX5_writeDraft_X4_write : GoodIn wsX5_writeDraft wsX4_write := goodIn_r _ [7, 8, 9, 10, 11, 12, 13, 6, 14, 15, 16, 17, 18, 19, 20, 21, 22, 23, 24, 25, 26, 27, 28, 29, 30, 31, 32, 33, 34, 35, 36, 37, 38, 64, 65, 66, 67, 68, 69] (by decide +kernel) (by decide +kernel)
set_option maxRecDepth 20000 in
theorem gX5_writeDraft_X4_write : GoodIn wsX5_writeDraft (wsV RX5 204 RX4 yX4_write wsX4_write) := goodIn_app (goodIn_of _ (by decide +kernel)) ggX5_writeDraft_X4_write
set_option maxRecDepth 20000 in
theorem ggX5_writeHead_X4_headVersion : GoodIn wsX5_writeHead wsX4_headVersion := goodIn_r _ [7, 8, 9, 10, 6, 11, 12, 13, 14, 15, 16, 17, 18, 19, 20, 21, 22, 23, 24, 25, 26, 27, 28, 29, 30, 31, 32, 33, 34, 35, 36, 37, 38, 39, 40, 41, 42, 43, 44, 45, 46, 47, 48, 49, 50, 51, 52, 53, 54, 55, 56, 57, 58, 123, 124, 125, 126, 127, 128] (by decide +kernel) (by decide +kernel)
set_option maxRecDepth 20000 in
theorem gX5_writeHead_X4_headVersion : GoodIn wsX5_writeHead (wsV RX5 190 RX4 yX4_headVersion wsX4_headVersion) := goodIn_app (goodIn_of _ (by decide +kernel)) ggX5_writeHead_X4_headVersion
set_option maxRecDepth 20000 in
theorem ggX5_writeHead_X4_latestHead : GoodIn wsX5_writeHead wsX4_latestHead := goodIn_r _ [11, 12, 13, 14, 6, 15, 16, 17, 18, 19, 20, 21, 22, 23, 24, 25, 26, 27, 28, 29, 30, 31, 32, 33, 34, 35, 36, 37, 38, 39, 40, 41, 42, 43, 44, 45, 46, 47, 48, 49, 50, 51, 52, 53, 54, 55, 56, 57, 58, 123, 124, 125, 126, 127, 128] (by decide +kernel) (by decide +kernel)
set_option maxRecDepth 20000 in
theorem gX5_writeHead_X4_latestHead : GoodIn wsX5_writeHead (wsV RX5 137 RX4 yX4_latestHead wsX4_latestHead) := goodIn_app (goodIn_of _ (by decide +kernel)) ggX5_writeHead_X4_latestHead
set_option maxRecDepth 20000 in
theorem ggX5_writeHead_X3_makeHead : GoodIn wsX5_writeHead wsX3_makeHead := goodIn_r _ [63, 64, 65, 66, 20, 67, 28, 68, 69, 70, 71, 72, 73, 74, 75, 29, 30, 31, 32, 33, 34, 35, 36, 37, 127, 128] (by decide +kernel) (by decide +kernel)
set_option maxRecDepth 20000 in
theorem gX5_writeHead_X3_makeHead : GoodIn wsX5_writeHead (wsV RX5 66 RX3 yX3_makeHead wsX3_makeHead) := goodIn_app (goodIn_of _ (by decide +kernel)) ggX5_writeHead_X3_makeHead
set_option maxRecDepth 20000 in
theorem ggX5_writeHead_X5_writeDraft : GoodIn wsX5_writeHead wsX5_writeDraft := goodIn_r _ [79, 1, 2, 80, 81, 82, 6, 83, 84, 85, 86, 12, 13, 14, 15, 16, 87, 88, 89, 20, 90, 22, 91, 92, 93, 94, 50, 51, 52, 53, 28, 72, 73, 74, 75, 95, 96, 97, 98, 99, 100, 101, 56, 102, 103, 104, 105, 106, 107, 108, 109, 110, 111, 112, 113, 114, 115, 116, 117, 118, 119, 120, 121, 122, 123, 124, 125, 126, 127, 128, 129, 130, 131, 132] (by decide +kernel) (by decide +kernel)
set_option maxRecDepth 20000 in
theorem gX5_writeHead_X5_writeDraft : GoodIn wsX5_writeHead (wsV RX5 208 RX5 yX5_writeDraft wsX5_writeDraft) := goodIn_app (goodIn_of _ (by decide +kernel)) ggX5_writeHead_X5_writeDraft
set_option maxRecDepth 20000 in
theorem ggX5_writeQueue_X1_sectorsWith : GoodIn wsX5_writeQueue wsX1_sectorsWith := goodIn_r _ [11, 12, 189, 190, 191, 192] (by decide +kernel) (by decide +kernel)
set_option maxRecDepth 20000 in
theorem gX5_writeQueue_X1_sectorsWith : GoodIn wsX5_writeQueue (wsV RX5 78 RX1 yX1_sectorsWith wsX1_sectorsWith) := goodIn_app (goodIn_of _ (by decide +kernel)) ggX5_writeQueue_X1_sectorsWith
set_option maxRecDepth 20000 in
theorem ggX5_writeQueue_X4_headVersion : GoodIn wsX5_writeQueue wsX4_headVersion := goodIn_r _ [17, 18, 19, 20, 16, 21, 22, 23, 24, 25, 26, 27, 28, 29, 30, 31, 32, 33, 34, 35, 36, 37, 38, 39, 40, 41, 42, 43, 44, 45, 46, 47, 48, 49, 50, 51, 52, 53, 54, 55, 56, 57, 58, 59, 60, 61, 62, 63, 64, 65, 66, 67, 68, 193, 194, 195, 196, 197, 198] (by decide +kernel) (by decide +kernel)
set_option maxRecDepth 20000 in
theorem gX5_writeQueue_X4_headVersion : GoodIn wsX5_writeQueue (wsV RX5 190 RX4 yX4_headVersion wsX4_headVersion) := goodIn_app (goodIn_of _ (by decide +kernel)) ggX5_writeQueue_X4_headVersion
set_option maxRecDepth 20000 in
theorem ggX5_writeQueue_X1_tellTo : GoodIn wsX5_writeQueue wsX1_tellTo := goodIn_r _ [161, 81, 152, 66, 153, 154, 155, 156, 157, 162, 163, 164, 147, 165, 166, 167, 168, 169, 170, 82, 83, 84, 10, 85, 86, 87, 88, 89, 90, 189, 190, 191, 192, 181, 182, 183, 184, 185, 186, 187, 188] (by decide +kernel) (by decide +kernel)
set_option maxRecDepth 20000 in
theorem gX5_writeQueue_X1_tellTo : GoodIn wsX5_writeQueue (wsV RX5 222 RX1 yX1_tellTo wsX1_tellTo) := goodIn_app (goodIn_of _ (by decide +kernel)) ggX5_writeQueue_X1_tellTo
set_option maxRecDepth 20000 in
theorem ggX5_writeQueue_X1_empty : GoodIn wsX5_writeQueue wsX1_empty := goodIn_r _ [142, 12, 81, 143, 189, 190, 191, 192] (by decide +kernel) (by decide +kernel)
set_option maxRecDepth 20000 in
theorem gX5_writeQueue_X1_empty : GoodIn wsX5_writeQueue (wsV RX5 201 RX1 yX1_empty wsX1_empty) := goodIn_app (goodIn_of _ (by decide +kernel)) ggX5_writeQueue_X1_empty
theorem dX5_init_0 : decode cX5_init 0 = .ok (.aload_n 0, 1) := by decide +kernel
theorem dX5_init_1 : decode cX5_init 1 = .ok (.invokespecial 3, 3) := by decide +kernel
theorem dX5_init_4 : decode cX5_init 4 = .ok (.aload_n 0, 1) := by decide +kernel
theorem dX5_init_5 : decode cX5_init 5 = .ok (.new 9, 3) := by decide +kernel
theorem dX5_init_8 : decode cX5_init 8 = .ok (.dup, 1) := by decide +kernel
theorem dX5_init_9 : decode cX5_init 9 = .ok (.invokespecial 11, 3) := by decide +kernel
theorem dX5_init_12 : decode cX5_init 12 = .ok (.putfield 12, 3) := by decide +kernel
theorem dX5_init_15 : decode cX5_init 15 = .ok (.aload_n 0, 1) := by decide +kernel
theorem dX5_init_16 : decode cX5_init 16 = .ok (.new 16, 3) := by decide +kernel
theorem dX5_init_19 : decode cX5_init 19 = .ok (.dup, 1) := by decide +kernel
theorem dX5_init_20 : decode cX5_init 20 = .ok (.invokespecial 18, 3) := by decide +kernel
theorem dX5_init_23 : decode cX5_init 23 = .ok (.putfield 19, 3) := by decide +kernel
theorem dX5_init_26 : decode cX5_init 26 = .ok (.aload_n 0, 1) := by decide +kernel
theorem dX5_init_27 : decode cX5_init 27 = .ok (.new 23, 3) := by decide +kernel
theorem dX5_init_30 : decode cX5_init 30 = .ok (.dup, 1) := by decide +kernel
theorem dX5_init_31 : decode cX5_init 31 = .ok (.invokespecial 25, 3) := by decide +kernel
theorem dX5_init_34 : decode cX5_init 34 = .ok (.putfield 26, 3) := by decide +kernel
theorem dX5_init_37 : decode cX5_init 37 = .ok (.aload_n 0, 1) := by decide +kernel
theorem dX5_init_38 : decode cX5_init 38 = .ok (.new 30, 3) := by decide +kernel
theorem dX5_init_41 : decode cX5_init 41 = .ok (.dup, 1) := by decide +kernel
theorem dX5_init_42 : decode cX5_init 42 = .ok (.invokespecial 32, 3) := by decide +kernel
theorem dX5_init_45 : decode cX5_init 45 = .ok (.putfield 33, 3) := by decide +kernel
theorem dX5_init_48 : decode cX5_init 48 = .ok (.aload_n 0, 1) := by decide +kernel
theorem dX5_init_49 : decode cX5_init 49 = .ok (.new 37, 3) := by decide +kernel
theorem dX5_init_52 : decode cX5_init 52 = .ok (.dup, 1) := by decide +kernel
theorem dX5_init_53 : decode cX5_init 53 = .ok (.invokespecial 39, 3) := by decide +kernel
theorem dX5_init_56 : decode cX5_init 56 = .ok (.putfield 40, 3) := by decide +kernel
theorem dX5_init_59 : decode cX5_init 59 = .ok (.aload_n 0, 1) := by decide +kernel
theorem dX5_init_60 : decode cX5_init 60 = .ok (.sipush 200, 3) := by decide +kernel
theorem dX5_init_63 : decode cX5_init 63 = .ok (.newarray .int, 2) := by decide +kernel
theorem dX5_init_65 : decode cX5_init 65 = .ok (.putfield 44, 3) := by decide +kernel
theorem dX5_init_68 : decode cX5_init 68 = .ok (.aload_n 0, 1) := by decide +kernel
theorem dX5_init_69 : decode cX5_init 69 = .ok (.iconst 0, 1) := by decide +kernel
theorem dX5_init_70 : decode cX5_init 70 = .ok (.putfield 48, 3) := by decide +kernel
theorem dX5_init_73 : decode cX5_init 73 = .ok (.aload_n 0, 1) := by decide +kernel
theorem dX5_init_74 : decode cX5_init 74 = .ok (.bipush 10, 2) := by decide +kernel
theorem dX5_init_76 : decode cX5_init 76 = .ok (.putfield 52, 3) := by decide +kernel
theorem dX5_init_79 : decode cX5_init 79 = .ok (.aload_n 0, 1) := by decide +kernel
theorem dX5_init_80 : decode cX5_init 80 = .ok (.iconst 0, 1) := by decide +kernel
theorem dX5_init_81 : decode cX5_init 81 = .ok (.putfield 55, 3) := by decide +kernel
theorem dX5_init_84 : decode cX5_init 84 = .ok (.aload_n 0, 1) := by decide +kernel
theorem dX5_init_85 : decode cX5_init 85 = .ok (.iconst 1, 1) := by decide +kernel
theorem dX5_init_86 : decode cX5_init 86 = .ok (.putfield 58, 3) := by decide +kernel
theorem dX5_init_89 : decode cX5_init 89 = .ok (.aload_n 0, 1) := by decide +kernel
theorem dX5_init_90 : decode cX5_init 90 = .ok (.getfield 12, 3) := by decide +kernel
theorem dX5_init_93 : decode cX5_init 93 = .ok (.iconst 0, 1) := by decide +kernel
theorem dX5_init_94 : decode cX5_init 94 = .ok (.invokevirtual 62, 3) := by decide +kernel
theorem dX5_init_97 : decode cX5_init 97 = .ok (.iconst 1, 1) := by decide +kernel
theorem dX5_init_98 : decode cX5_init 98 = .ok (.iconst 1, 1) := by decide +kernel
theorem dX5_init_99 : decode cX5_init 99 = .ok (.iconst 1, 1) := by decide +kernel
theorem dX5_init_100 : decode cX5_init 100 = .ok (.iconst 2, 1) := by decide +kernel
theorem dX5_init_101 : decode cX5_init 101 = .ok (.invokevirtual 66, 3) := by decide +kernel
theorem dX5_init_104 : decode cX5_init 104 = .ok (.aload_n 0, 1) := by decide +kernel
theorem dX5_init_105 : decode cX5_init 105 = .ok (.getfield 26, 3) := by decide +kernel
theorem dX5_init_108 : decode cX5_init 108 = .ok (.iconst 2, 1) := by decide +kernel
theorem dX5_init_109 : decode cX5_init 109 = .ok (.iconst 1, 1) := by decide +kernel
theorem dX5_init_110 : decode cX5_init 110 = .ok (.iconst 1, 1) := by decide +kernel
theorem dX5_init_111 : decode cX5_init 111 = .ok (.invokevirtual 70, 3) := by decide +kernel
theorem dX5_init_114 : decode cX5_init 114 = .ok (.return_, 1) := by decide +kernel
theorem dX5_delay_0 : decode cX5_delay 0 = .ok (.aload_n 0, 1) := by decide +kernel
theorem dX5_delay_1 : decode cX5_delay 1 = .ok (.getfield 58, 3) := by decide +kernel
theorem dX5_delay_4 : decode cX5_delay 4 = .ok (.ifCond .eq 10, 3) := by decide +kernel
theorem dX5_delay_7 : decode cX5_delay 7 = .ok (.iload_n 1, 1) := by decide +kernel
theorem dX5_delay_8 : decode cX5_delay 8 = .ok (.invokestatic 74, 3) := by decide +kernel
theorem dX5_delay_11 : decode cX5_delay 11 = .ok (.ifCond .ne 5, 3) := by decide +kernel
theorem dX5_delay_14 : decode cX5_delay 14 = .ok (.iconst 0, 1) := by decide +kernel
theorem dX5_delay_15 : decode cX5_delay 15 = .ok (.ireturn, 1) := by decide +kernel
theorem dX5_delay_16 : decode cX5_delay 16 = .ok (.aload_n 0, 1) := by decide +kernel
theorem dX5_delay_17 : decode cX5_delay 17 = .ok (.iload_n 1, 1) := by decide +kernel
theorem dX5_delay_18 : decode cX5_delay 18 = .ok (.putfield 52, 3) := by decide +kernel
theorem dX5_delay_21 : decode cX5_delay 21 = .ok (.iconst 1, 1) := by decide +kernel
theorem dX5_delay_22 : decode cX5_delay 22 = .ok (.ireturn, 1) := by decide +kernel
theorem dX5_feed_0 : decode cX5_feed 0 = .ok (.iload_n 1, 1) := by decide +kernel
theorem dX5_feed_1 : decode cX5_feed 1 = .ok (.ifCond .lt 29, 3) := by decide +kernel
theorem dX5_feed_4 : decode cX5_feed 4 = .ok (.iload_n 1, 1) := by decide +kernel
theorem dX5_feed_5 : decode cX5_feed 5 = .ok (.sipush 255, 3) := by decide +kernel
theorem dX5_feed_8 : decode cX5_feed 8 = .ok (.if_icmp .gt 22, 3) := by decide +kernel
theorem dX5_feed_11 : decode cX5_feed 11 = .ok (.aload_n 0, 1) := by decide +kernel
theorem dX5_feed_12 : decode cX5_feed 12 = .ok (.getfield 48, 3) := by decide +kernel
theorem dX5_feed_15 : decode cX5_feed 15 = .ok (.ifCond .lt 15, 3) := by decide +kernel
theorem dX5_feed_18 : decode cX5_feed 18 = .ok (.aload_n 0, 1) := by decide +kernel
theorem dX5_feed_19 : decode cX5_feed 19 = .ok (.getfield 48, 3) := by decide +kernel
theorem dX5_feed_22 : decode cX5_feed 22 = .ok (.aload_n 0, 1) := by decide +kernel
theorem dX5_feed_23 : decode cX5_feed 23 = .ok (.getfield 44, 3) := by decide +kernel
theorem dX5_feed_26 : decode cX5_feed 26 = .ok (.arraylength, 1) := by decide +kernel
theorem dX5_feed_27 : decode cX5_feed 27 = .ok (.if_icmp .lt 5, 3) := by decide +kernel
theorem dX5_feed_30 : decode cX5_feed 30 = .ok (.iconst 0, 1) := by decide +kernel
theorem dX5_feed_31 : decode cX5_feed 31 = .ok (.ireturn, 1) := by decide +kernel
theorem dX5_feed_32 : decode cX5_feed 32 = .ok (.aload_n 0, 1) := by decide +kernel
theorem dX5_feed_33 : decode cX5_feed 33 = .ok (.getfield 44, 3) := by decide +kernel
theorem dX5_feed_36 : decode cX5_feed 36 = .ok (.aload_n 0, 1) := by decide +kernel
theorem dX5_feed_37 : decode cX5_feed 37 = .ok (.getfield 48, 3) := by decide +kernel
theorem dX5_feed_40 : decode cX5_feed 40 = .ok (.iload_n 1, 1) := by decide +kernel
theorem dX5_feed_41 : decode cX5_feed 41 = .ok (.iastore, 1) := by decide +kernel
theorem dX5_feed_42 : decode cX5_feed 42 = .ok (.aload_n 0, 1) := by decide +kernel
theorem dX5_feed_43 : decode cX5_feed 43 = .ok (.dup, 1) := by decide +kernel
theorem dX5_feed_44 : decode cX5_feed 44 = .ok (.getfield 48, 3) := by decide +kernel
theorem dX5_feed_47 : decode cX5_feed 47 = .ok (.iconst 1, 1) := by decide +kernel
theorem dX5_feed_48 : decode cX5_feed 48 = .ok (.iadd, 1) := by decide +kernel
theorem dX5_feed_49 : decode cX5_feed 49 = .ok (.putfield 48, 3) := by decide +kernel
theorem dX5_feed_52 : decode cX5_feed 52 = .ok (.iconst 1, 1) := by decide +kernel
theorem dX5_feed_53 : decode cX5_feed 53 = .ok (.ireturn, 1) := by decide +kernel
theorem dX5_append_0 : decode cX5_append 0 = .ok (.aload_n 0, 1) := by decide +kernel
theorem dX5_append_1 : decode cX5_append 1 = .ok (.getfield 58, 3) := by decide +kernel
theorem dX5_append_4 : decode cX5_append 4 = .ok (.ifCond .ne 6, 3) := by decide +kernel
theorem dX5_append_7 : decode cX5_append 7 = .ok (.bipush (-2), 2) := by decide +kernel
theorem dX5_append_9 : decode cX5_append 9 = .ok (.ireturn, 1) := by decide +kernel
theorem dX5_append_10 : decode cX5_append 10 = .ok (.aload_n 0, 1) := by decide +kernel
theorem dX5_append_11 : decode cX5_append 11 = .ok (.getfield 48, 3) := by decide +kernel
theorem dX5_append_14 : decode cX5_append 14 = .ok (.ifCond .eq 30, 3) := by decide +kernel
theorem dX5_append_17 : decode cX5_append 17 = .ok (.aload_n 0, 1) := by decide +kernel
theorem dX5_append_18 : decode cX5_append 18 = .ok (.getfield 19, 3) := by decide +kernel
theorem dX5_append_21 : decode cX5_append 21 = .ok (.bipush 6, 2) := by decide +kernel
theorem dX5_append_23 : decode cX5_append 23 = .ok (.aload_n 0, 1) := by decide +kernel
theorem dX5_append_24 : decode cX5_append 24 = .ok (.getfield 48, 3) := by decide +kernel
theorem dX5_append_27 : decode cX5_append 27 = .ok (.iadd, 1) := by decide +kernel
theorem dX5_append_28 : decode cX5_append 28 = .ok (.invokevirtual 78, 3) := by decide +kernel
theorem dX5_flush_0 : decode cX5_flush 0 = .ok (.aload_n 0, 1) := by decide +kernel
theorem dX5_flush_1 : decode cX5_flush 1 = .ok (.getfield 58, 3) := by decide +kernel
theorem dX5_flush_4 : decode cX5_flush 4 = .ok (.ifCond .eq 10, 3) := by decide +kernel
theorem dX5_flush_7 : decode cX5_flush 7 = .ok (.aload_n 0, 1) := by decide +kernel
theorem dX5_flush_8 : decode cX5_flush 8 = .ok (.invokevirtual 98, 3) := by decide +kernel
theorem dX5_flush_11 : decode cX5_flush 11 = .ok (.goto 5, 3) := by decide +kernel
theorem dX5_flush_14 : decode cX5_flush 14 = .ok (.bipush (-2), 2) := by decide +kernel
theorem dX5_flush_16 : decode cX5_flush 16 = .ok (.ireturn, 1) := by decide +kernel
theorem dX5_tick_0 : decode cX5_tick 0 = .ok (.aload_n 0, 1) := by decide +kernel
theorem dX5_tick_1 : decode cX5_tick 1 = .ok (.getfield 58, 3) := by decide +kernel
theorem dX5_tick_4 : decode cX5_tick 4 = .ok (.ifCond .ne 6, 3) := by decide +kernel
theorem dX5_tick_7 : decode cX5_tick 7 = .ok (.bipush (-2), 2) := by decide +kernel
theorem dX5_tick_9 : decode cX5_tick 9 = .ok (.ireturn, 1) := by decide +kernel
theorem dX5_tick_10 : decode cX5_tick 10 = .ok (.iload_n 1, 1) := by decide +kernel
theorem dX5_tick_11 : decode cX5_tick 11 = .ok (.invokestatic 74, 3) := by decide +kernel
theorem dX5_tick_14 : decode cX5_tick 14 = .ok (.ifCond .ne 5, 3) := by decide +kernel
theorem dX5_tick_17 : decode cX5_tick 17 = .ok (.iconst (-1), 1) := by decide +kernel
theorem dX5_tick_18 : decode cX5_tick 18 = .ok (.ireturn, 1) := by decide +kernel
theorem dX5_tick_19 : decode cX5_tick 19 = .ok (.aload_n 0, 1) := by decide +kernel
theorem dX5_tick_20 : decode cX5_tick 20 = .ok (.getfield 19, 3) := by decide +kernel
theorem dX5_tick_23 : decode cX5_tick 23 = .ok (.getfield 88, 3) := by decide +kernel
theorem dX5_tick_26 : decode cX5_tick 26 = .ok (.ifCond .ne 5, 3) := by decide +kernel
theorem dX5_tick_29 : decode cX5_tick 29 = .ok (.iconst 0, 1) := by decide +kernel
theorem dX5_tick_30 : decode cX5_tick 30 = .ok (.ireturn, 1) := by decide +kernel
theorem dX5_tick_31 : decode cX5_tick 31 = .ok (.aload_n 0, 1) := by decide +kernel
theorem dX5_tick_32 : decode cX5_tick 32 = .ok (.getfield 19, 3) := by decide +kernel
theorem dX5_tick_35 : decode cX5_tick 35 = .ok (.dup, 1) := by decide +kernel
theorem dX5_tick_36 : decode cX5_tick 36 = .ok (.getfield 102, 3) := by decide +kernel
theorem dX5_tick_39 : decode cX5_tick 39 = .ok (.iload_n 1, 1) := by decide +kernel
theorem dX5_tick_40 : decode cX5_tick 40 = .ok (.iadd, 1) := by decide +kernel
theorem dX5_tick_41 : decode cX5_tick 41 = .ok (.putfield 102, 3) := by decide +kernel
theorem dX5_tick_44 : decode cX5_tick 44 = .ok (.aload_n 0, 1) := by decide +kernel
theorem dX5_tick_45 : decode cX5_tick 45 = .ok (.getfield 19, 3) := by decide +kernel
theorem dX5_tick_48 : decode cX5_tick 48 = .ok (.getfield 102, 3) := by decide +kernel
theorem dX5_tick_51 : decode cX5_tick 51 = .ok (.aload_n 0, 1) := by decide +kernel
theorem dX5_tick_52 : decode cX5_tick 52 = .ok (.getfield 52, 3) := by decide +kernel
theorem dX5_tick_55 : decode cX5_tick 55 = .ok (.if_icmp .ge 5, 3) := by decide +kernel
theorem dX5_tick_58 : decode cX5_tick 58 = .ok (.iconst 0, 1) := by decide +kernel
theorem dX5_tick_59 : decode cX5_tick 59 = .ok (.ireturn, 1) := by decide +kernel
theorem dX5_tick_60 : decode cX5_tick 60 = .ok (.aload_n 0, 1) := by decide +kernel
theorem dX5_tick_61 : decode cX5_tick 61 = .ok (.invokevirtual 98, 3) := by decide +kernel
theorem dX5_tick_64 : decode cX5_tick 64 = .ok (.pop, 1) := by decide +kernel
theorem dX5_tick_65 : decode cX5_tick 65 = .ok (.iconst 1, 1) := by decide +kernel
theorem dX5_tick_66 : decode cX5_tick 66 = .ok (.ireturn, 1) := by decide +kernel
theorem dX5_checkpoint_0 : decode cX5_checkpoint 0 = .ok (.aload_n 0, 1) := by decide +kernel
theorem dX5_checkpoint_1 : decode cX5_checkpoint 1 = .ok (.getfield 58, 3) := by decide +kernel
theorem dX5_checkpoint_4 : decode cX5_checkpoint 4 = .ok (.ifCond .ne 6, 3) := by decide +kernel
theorem dX5_checkpoint_7 : decode cX5_checkpoint 7 = .ok (.bipush (-2), 2) := by decide +kernel
theorem dX5_checkpoint_9 : decode cX5_checkpoint 9 = .ok (.ireturn, 1) := by decide +kernel
theorem dX5_checkpoint_10 : decode cX5_checkpoint 10 = .ok (.iload_n 1, 1) := by decide +kernel
theorem dX5_checkpoint_11 : decode cX5_checkpoint 11 = .ok (.aload_n 0, 1) := by decide +kernel
theorem dX5_checkpoint_12 : decode cX5_checkpoint 12 = .ok (.getfield 26, 3) := by decide +kernel
theorem dX5_checkpoint_15 : decode cX5_checkpoint 15 = .ok (.getfield 105, 3) := by decide +kernel
theorem dX5_checkpoint_18 : decode cX5_checkpoint 18 = .ok (.if_icmp .lt 16, 3) := by decide +kernel
theorem dX5_checkpoint_21 : decode cX5_checkpoint 21 = .ok (.iload_n 1, 1) := by decide +kernel
theorem dX5_checkpoint_22 : decode cX5_checkpoint 22 = .ok (.aload_n 0, 1) := by decide +kernel
theorem dX5_checkpoint_23 : decode cX5_checkpoint 23 = .ok (.getfield 26, 3) := by decide +kernel
theorem dX5_checkpoint_26 : decode cX5_checkpoint 26 = .ok (.getfield 85, 3) := by decide +kernel
theorem dX5_checkpoint_29 : decode cX5_checkpoint 29 = .ok (.iconst 1, 1) := by decide +kernel
theorem dX5_checkpoint_30 : decode cX5_checkpoint 30 = .ok (.iadd, 1) := by decide +kernel
theorem dX5_checkpoint_31 : decode cX5_checkpoint 31 = .ok (.if_icmp .le 5, 3) := by decide +kernel
theorem dX5_checkpoint_34 : decode cX5_checkpoint 34 = .ok (.iconst (-1), 1) := by decide +kernel
theorem dX5_checkpoint_35 : decode cX5_checkpoint 35 = .ok (.ireturn, 1) := by decide +kernel
theorem dX5_checkpoint_36 : decode cX5_checkpoint 36 = .ok (.aload_n 0, 1) := by decide +kernel
theorem dX5_checkpoint_37 : decode cX5_checkpoint 37 = .ok (.getfield 26, 3) := by decide +kernel
theorem dX5_checkpoint_40 : decode cX5_checkpoint 40 = .ok (.iload_n 1, 1) := by decide +kernel
theorem dX5_checkpoint_41 : decode cX5_checkpoint 41 = .ok (.invokevirtual 108, 3) := by decide +kernel
theorem dX5_checkpoint_44 : decode cX5_checkpoint 44 = .ok (.istore_n 2, 1) := by decide +kernel
theorem dX5_checkpoint_45 : decode cX5_checkpoint 45 = .ok (.aload_n 0, 1) := by decide +kernel
theorem dX5_checkpoint_46 : decode cX5_checkpoint 46 = .ok (.getfield 26, 3) := by decide +kernel
theorem dX5_checkpoint_49 : decode cX5_checkpoint 49 = .ok (.iload_n 1, 1) := by decide +kernel
theorem dX5_checkpoint_50 : decode cX5_checkpoint 50 = .ok (.invokevirtual 111, 3) := by decide +kernel
theorem dX5_checkpoint_53 : decode cX5_checkpoint 53 = .ok (.istore_n 3, 1) := by decide +kernel
theorem dX5_checkpoint_54 : decode cX5_checkpoint 54 = .ok (.iload_n 1, 1) := by decide +kernel
theorem dX5_checkpoint_55 : decode cX5_checkpoint 55 = .ok (.aload_n 0, 1) := by decide +kernel
theorem dX5_checkpoint_56 : decode cX5_checkpoint 56 = .ok (.getfield 26, 3) := by decide +kernel
theorem dX5_checkpoint_59 : decode cX5_checkpoint 59 = .ok (.getfield 85, 3) := by decide +kernel
theorem dX5_checkpoint_62 : decode cX5_checkpoint 62 = .ok (.if_icmp .le 13, 3) := by decide +kernel
theorem dX5_checkpoint_65 : decode cX5_checkpoint 65 = .ok (.aload_n 0, 1) := by decide +kernel
theorem dX5_checkpoint_66 : decode cX5_checkpoint 66 = .ok (.getfield 26, 3) := by decide +kernel
theorem dX5_checkpoint_69 : decode cX5_checkpoint 69 = .ok (.getfield 114, 3) := by decide +kernel
theorem dX5_checkpoint_72 : decode cX5_checkpoint 72 = .ok (.goto 14, 3) := by decide +kernel
theorem dX5_checkpoint_75 : decode cX5_checkpoint 75 = .ok (.aload_n 0, 1) := by decide +kernel
theorem dX5_checkpoint_76 : decode cX5_checkpoint 76 = .ok (.getfield 12, 3) := by decide +kernel
theorem dX5_checkpoint_79 : decode cX5_checkpoint 79 = .ok (.iload_n 2, 1) := by decide +kernel
theorem dX5_checkpoint_80 : decode cX5_checkpoint 80 = .ok (.invokevirtual 62, 3) := by decide +kernel
theorem dX5_checkpoint_83 : decode cX5_checkpoint 83 = .ok (.invokevirtual 117, 3) := by decide +kernel
theorem dX5_checkpoint_86 : decode cX5_checkpoint 86 = .ok (.istore 4, 2) := by decide +kernel
theorem dX5_checkpoint_88 : decode cX5_checkpoint 88 = .ok (.aload_n 0, 1) := by decide +kernel
theorem dX5_checkpoint_89 : decode cX5_checkpoint 89 = .ok (.iload 4, 2) := by decide +kernel
theorem dX5_checkpoint_91 : decode cX5_checkpoint 91 = .ok (.iload_n 3, 1) := by decide +kernel
theorem dX5_checkpoint_92 : decode cX5_checkpoint 92 = .ok (.iload_n 2, 1) := by decide +kernel
theorem dX5_checkpoint_93 : decode cX5_checkpoint 93 = .ok (.invokevirtual 120, 3) := by decide +kernel
theorem dX5_checkpoint_96 : decode cX5_checkpoint 96 = .ok (.ifCond .ne 6, 3) := by decide +kernel
theorem dX5_checkpoint_99 : decode cX5_checkpoint 99 = .ok (.bipush (-2), 2) := by decide +kernel
theorem dX5_checkpoint_101 : decode cX5_checkpoint 101 = .ok (.ireturn, 1) := by decide +kernel
theorem dX5_checkpoint_102 : decode cX5_checkpoint 102 = .ok (.aload_n 0, 1) := by decide +kernel
theorem dX5_checkpoint_103 : decode cX5_checkpoint 103 = .ok (.getfield 26, 3) := by decide +kernel
theorem dX5_checkpoint_106 : decode cX5_checkpoint 106 = .ok (.iload_n 1, 1) := by decide +kernel
theorem dX5_checkpoint_107 : decode cX5_checkpoint 107 = .ok (.iload_n 3, 1) := by decide +kernel
theorem dX5_checkpoint_108 : decode cX5_checkpoint 108 = .ok (.iload_n 2, 1) := by decide +kernel
theorem dX5_checkpoint_109 : decode cX5_checkpoint 109 = .ok (.invokevirtual 124, 3) := by decide +kernel
theorem dX5_checkpoint_112 : decode cX5_checkpoint 112 = .ok (.ireturn, 1) := by decide +kernel
theorem dX5_cut_0 : decode cX5_cut 0 = .ok (.aload_n 0, 1) := by decide +kernel
theorem dX5_cut_1 : decode cX5_cut 1 = .ok (.getfield 58, 3) := by decide +kernel
theorem dX5_cut_4 : decode cX5_cut 4 = .ok (.ifCond .ne 5, 3) := by decide +kernel
theorem dX5_cut_7 : decode cX5_cut 7 = .ok (.iconst 0, 1) := by decide +kernel
theorem dX5_cut_8 : decode cX5_cut 8 = .ok (.ireturn, 1) := by decide +kernel
theorem dX5_cut_9 : decode cX5_cut 9 = .ok (.aload_n 0, 1) := by decide +kernel
theorem dX5_cut_10 : decode cX5_cut 10 = .ok (.invokevirtual 128, 3) := by decide +kernel
theorem dX5_cut_13 : decode cX5_cut 13 = .ok (.iconst 1, 1) := by decide +kernel
theorem dX5_cut_14 : decode cX5_cut 14 = .ok (.ireturn, 1) := by decide +kernel
theorem dX5_arm_0 : decode cX5_arm 0 = .ok (.aload_n 0, 1) := by decide +kernel
theorem dX5_arm_1 : decode cX5_arm 1 = .ok (.getfield 58, 3) := by decide +kernel
theorem dX5_arm_4 : decode cX5_arm 4 = .ok (.ifCond .eq 23, 3) := by decide +kernel
theorem dX5_arm_7 : decode cX5_arm 7 = .ok (.iload_n 1, 1) := by decide +kernel
theorem dX5_arm_8 : decode cX5_arm 8 = .ok (.ifCond .lt 19, 3) := by decide +kernel
theorem dX5_arm_11 : decode cX5_arm 11 = .ok (.iload_n 1, 1) := by decide +kernel
theorem dX5_arm_12 : decode cX5_arm 12 = .ok (.bipush 100, 2) := by decide +kernel
theorem dX5_arm_14 : decode cX5_arm 14 = .ok (.if_icmp .gt 13, 3) := by decide +kernel
theorem dX5_arm_17 : decode cX5_arm 17 = .ok (.iload_n 2, 1) := by decide +kernel
theorem dX5_arm_18 : decode cX5_arm 18 = .ok (.ifCond .lt 9, 3) := by decide +kernel
theorem dX5_arm_21 : decode cX5_arm 21 = .ok (.iload_n 2, 1) := by decide +kernel
theorem dX5_arm_22 : decode cX5_arm 22 = .ok (.bipush 64, 2) := by decide +kernel
theorem dX5_arm_24 : decode cX5_arm 24 = .ok (.if_icmp .lt 5, 3) := by decide +kernel
theorem dX5_arm_27 : decode cX5_arm 27 = .ok (.iconst 0, 1) := by decide +kernel
theorem dX5_arm_28 : decode cX5_arm 28 = .ok (.ireturn, 1) := by decide +kernel
theorem dX5_arm_29 : decode cX5_arm 29 = .ok (.aload_n 0, 1) := by decide +kernel
theorem dX5_arm_30 : decode cX5_arm 30 = .ok (.getfield 12, 3) := by decide +kernel
theorem dX5_arm_33 : decode cX5_arm 33 = .ok (.iload_n 1, 1) := by decide +kernel
theorem dX5_arm_34 : decode cX5_arm 34 = .ok (.putfield 131, 3) := by decide +kernel
theorem dX5_arm_37 : decode cX5_arm 37 = .ok (.aload_n 0, 1) := by decide +kernel
theorem dX5_arm_38 : decode cX5_arm 38 = .ok (.getfield 12, 3) := by decide +kernel
theorem dX5_arm_41 : decode cX5_arm 41 = .ok (.iload_n 2, 1) := by decide +kernel
theorem dX5_arm_42 : decode cX5_arm 42 = .ok (.putfield 134, 3) := by decide +kernel
theorem dX5_arm_45 : decode cX5_arm 45 = .ok (.iconst 1, 1) := by decide +kernel
theorem dX5_arm_46 : decode cX5_arm 46 = .ok (.ireturn, 1) := by decide +kernel
theorem dX5_start_0 : decode cX5_start 0 = .ok (.aload_n 0, 1) := by decide +kernel
theorem dX5_start_1 : decode cX5_start 1 = .ok (.getfield 58, 3) := by decide +kernel
theorem dX5_start_4 : decode cX5_start 4 = .ok (.ifCond .eq 5, 3) := by decide +kernel
theorem dX5_start_7 : decode cX5_start 7 = .ok (.iconst (-1), 1) := by decide +kernel
theorem dX5_start_8 : decode cX5_start 8 = .ok (.ireturn, 1) := by decide +kernel
theorem dX5_start_9 : decode cX5_start 9 = .ok (.aload_n 0, 1) := by decide +kernel
theorem dX5_start_10 : decode cX5_start 10 = .ok (.getfield 12, 3) := by decide +kernel
theorem dX5_first_0 : decode cX5_first 0 = .ok (.aload_n 0, 1) := by decide +kernel
theorem dX5_first_1 : decode cX5_first 1 = .ok (.getfield 58, 3) := by decide +kernel
theorem dX5_first_4 : decode cX5_first 4 = .ok (.ifCond .eq 13, 3) := by decide +kernel
theorem dX5_first_7 : decode cX5_first 7 = .ok (.aload_n 0, 1) := by decide +kernel
theorem dX5_first_8 : decode cX5_first 8 = .ok (.getfield 26, 3) := by decide +kernel
theorem dX5_first_11 : decode cX5_first 11 = .ok (.getfield 153, 3) := by decide +kernel
theorem dX5_first_14 : decode cX5_first 14 = .ok (.goto 5, 3) := by decide +kernel
theorem dX5_first_17 : decode cX5_first 17 = .ok (.bipush (-2), 2) := by decide +kernel
theorem dX5_first_19 : decode cX5_first 19 = .ok (.ireturn, 1) := by decide +kernel
theorem dX5_safe_0 : decode cX5_safe 0 = .ok (.aload_n 0, 1) := by decide +kernel
theorem dX5_safe_1 : decode cX5_safe 1 = .ok (.getfield 58, 3) := by decide +kernel
theorem dX5_safe_4 : decode cX5_safe 4 = .ok (.ifCond .eq 13, 3) := by decide +kernel
theorem dX5_safe_7 : decode cX5_safe 7 = .ok (.aload_n 0, 1) := by decide +kernel
theorem dX5_safe_8 : decode cX5_safe 8 = .ok (.getfield 26, 3) := by decide +kernel
theorem dX5_safe_11 : decode cX5_safe 11 = .ok (.getfield 85, 3) := by decide +kernel
theorem dX5_safe_14 : decode cX5_safe 14 = .ok (.goto 5, 3) := by decide +kernel
theorem dX5_safe_17 : decode cX5_safe 17 = .ok (.bipush (-2), 2) := by decide +kernel
theorem dX5_safe_19 : decode cX5_safe 19 = .ok (.ireturn, 1) := by decide +kernel
theorem dX5_size_0 : decode cX5_size 0 = .ok (.aload_n 0, 1) := by decide +kernel
theorem dX5_size_1 : decode cX5_size 1 = .ok (.getfield 58, 3) := by decide +kernel
theorem dX5_size_4 : decode cX5_size 4 = .ok (.ifCond .ne 6, 3) := by decide +kernel
theorem dX5_size_7 : decode cX5_size 7 = .ok (.bipush (-2), 2) := by decide +kernel
theorem dX5_size_9 : decode cX5_size 9 = .ok (.ireturn, 1) := by decide +kernel
theorem dX5_size_10 : decode cX5_size 10 = .ok (.aload_n 0, 1) := by decide +kernel
theorem dX5_size_11 : decode cX5_size 11 = .ok (.getfield 26, 3) := by decide +kernel
theorem dX5_size_14 : decode cX5_size 14 = .ok (.iload_n 1, 1) := by decide +kernel
theorem dX5_size_15 : decode cX5_size 15 = .ok (.invokevirtual 156, 3) := by decide +kernel
theorem dX5_size_18 : decode cX5_size 18 = .ok (.ifCond .eq 18, 3) := by decide +kernel
theorem dX5_size_21 : decode cX5_size 21 = .ok (.aload_n 0, 1) := by decide +kernel
theorem dX5_size_22 : decode cX5_size 22 = .ok (.getfield 26, 3) := by decide +kernel
theorem dX5_size_25 : decode cX5_size 25 = .ok (.aload_n 0, 1) := by decide +kernel
theorem dX5_size_26 : decode cX5_size 26 = .ok (.getfield 12, 3) := by decide +kernel
theorem dX5_size_29 : decode cX5_size 29 = .ok (.iload_n 1, 1) := by decide +kernel
theorem dX5_size_30 : decode cX5_size 30 = .ok (.invokevirtual 159, 3) := by decide +kernel
theorem dX5_size_33 : decode cX5_size 33 = .ok (.goto 4, 3) := by decide +kernel
theorem dX5_size_36 : decode cX5_size 36 = .ok (.iconst (-1), 1) := by decide +kernel
theorem dX5_size_37 : decode cX5_size 37 = .ok (.ireturn, 1) := by decide +kernel
theorem dX5_at_0 : decode cX5_at 0 = .ok (.aload_n 0, 1) := by decide +kernel
theorem dX5_at_1 : decode cX5_at 1 = .ok (.getfield 58, 3) := by decide +kernel
theorem dX5_at_4 : decode cX5_at 4 = .ok (.ifCond .ne 6, 3) := by decide +kernel
theorem dX5_at_7 : decode cX5_at 7 = .ok (.bipush (-2), 2) := by decide +kernel
theorem dX5_at_9 : decode cX5_at 9 = .ok (.ireturn, 1) := by decide +kernel
theorem dX5_at_10 : decode cX5_at 10 = .ok (.aload_n 0, 1) := by decide +kernel
theorem dX5_at_11 : decode cX5_at 11 = .ok (.getfield 26, 3) := by decide +kernel
theorem dX5_at_14 : decode cX5_at 14 = .ok (.iload_n 1, 1) := by decide +kernel
theorem dX5_at_15 : decode cX5_at 15 = .ok (.invokevirtual 156, 3) := by decide +kernel
theorem dX5_at_18 : decode cX5_at 18 = .ok (.ifCond .eq 23, 3) := by decide +kernel
theorem dX5_at_21 : decode cX5_at 21 = .ok (.iload_n 2, 1) := by decide +kernel
theorem dX5_at_22 : decode cX5_at 22 = .ok (.ifCond .lt 19, 3) := by decide +kernel
theorem dX5_at_25 : decode cX5_at 25 = .ok (.iload_n 2, 1) := by decide +kernel
theorem dX5_at_26 : decode cX5_at 26 = .ok (.aload_n 0, 1) := by decide +kernel
theorem dX5_at_27 : decode cX5_at 27 = .ok (.getfield 26, 3) := by decide +kernel
theorem dX5_at_30 : decode cX5_at 30 = .ok (.aload_n 0, 1) := by decide +kernel
theorem dX5_at_31 : decode cX5_at 31 = .ok (.getfield 12, 3) := by decide +kernel
theorem dX5_at_34 : decode cX5_at 34 = .ok (.iload_n 1, 1) := by decide +kernel
theorem dX5_at_35 : decode cX5_at 35 = .ok (.invokevirtual 159, 3) := by decide +kernel
theorem dX5_at_38 : decode cX5_at 38 = .ok (.if_icmp .lt 5, 3) := by decide +kernel
theorem dX5_at_41 : decode cX5_at 41 = .ok (.iconst (-1), 1) := by decide +kernel
theorem dX5_at_42 : decode cX5_at 42 = .ok (.ireturn, 1) := by decide +kernel
theorem dX5_at_43 : decode cX5_at 43 = .ok (.aload_n 0, 1) := by decide +kernel
theorem dX5_at_44 : decode cX5_at 44 = .ok (.getfield 26, 3) := by decide +kernel
theorem dX5_at_47 : decode cX5_at 47 = .ok (.aload_n 0, 1) := by decide +kernel
theorem dX5_at_48 : decode cX5_at 48 = .ok (.getfield 12, 3) := by decide +kernel
theorem dX5_at_51 : decode cX5_at 51 = .ok (.iload_n 1, 1) := by decide +kernel
theorem dX5_at_52 : decode cX5_at 52 = .ok (.bipush 6, 2) := by decide +kernel
theorem dX5_at_54 : decode cX5_at 54 = .ok (.iload_n 2, 1) := by decide +kernel
theorem dX5_at_55 : decode cX5_at 55 = .ok (.iadd, 1) := by decide +kernel
theorem dX5_at_56 : decode cX5_at 56 = .ok (.invokevirtual 163, 3) := by decide +kernel
theorem dX5_at_59 : decode cX5_at 59 = .ok (.ireturn, 1) := by decide +kernel
theorem dX5_disk_0 : decode cX5_disk 0 = .ok (.iload_n 1, 1) := by decide +kernel
theorem dX5_disk_1 : decode cX5_disk 1 = .ok (.iload_n 2, 1) := by decide +kernel
theorem dX5_disk_2 : decode cX5_disk 2 = .ok (.invokestatic 167, 3) := by decide +kernel
theorem dX5_disk_5 : decode cX5_disk 5 = .ok (.ifCond .eq 18, 3) := by decide +kernel
theorem dX5_disk_8 : decode cX5_disk 8 = .ok (.aload_n 0, 1) := by decide +kernel
theorem dX5_disk_9 : decode cX5_disk 9 = .ok (.getfield 12, 3) := by decide +kernel
theorem dX5_disk_12 : decode cX5_disk 12 = .ok (.iload_n 1, 1) := by decide +kernel
theorem dX5_disk_13 : decode cX5_disk 13 = .ok (.invokevirtual 62, 3) := by decide +kernel
theorem dX5_disk_16 : decode cX5_disk 16 = .ok (.iload_n 2, 1) := by decide +kernel
theorem dX5_disk_17 : decode cX5_disk 17 = .ok (.invokevirtual 171, 3) := by decide +kernel
theorem dX5_disk_20 : decode cX5_disk 20 = .ok (.goto 4, 3) := by decide +kernel
theorem dX5_disk_23 : decode cX5_disk 23 = .ok (.iconst (-1), 1) := by decide +kernel
theorem dX5_disk_24 : decode cX5_disk 24 = .ok (.ireturn, 1) := by decide +kernel
theorem dX5_poke_0 : decode cX5_poke 0 = .ok (.aload_n 0, 1) := by decide +kernel
theorem dX5_poke_1 : decode cX5_poke 1 = .ok (.getfield 58, 3) := by decide +kernel
theorem dX5_poke_4 : decode cX5_poke 4 = .ok (.ifCond .ne 23, 3) := by decide +kernel
theorem dX5_poke_7 : decode cX5_poke 7 = .ok (.iload_n 1, 1) := by decide +kernel
theorem dX5_poke_8 : decode cX5_poke 8 = .ok (.iload_n 2, 1) := by decide +kernel
theorem dX5_poke_9 : decode cX5_poke 9 = .ok (.invokestatic 167, 3) := by decide +kernel
theorem dX5_poke_12 : decode cX5_poke 12 = .ok (.ifCond .eq 15, 3) := by decide +kernel
theorem dX5_poke_15 : decode cX5_poke 15 = .ok (.iload_n 3, 1) := by decide +kernel
theorem dX5_poke_16 : decode cX5_poke 16 = .ok (.iconst 1, 1) := by decide +kernel
theorem dX5_poke_17 : decode cX5_poke 17 = .ok (.if_icmp .lt 10, 3) := by decide +kernel
theorem dX5_poke_20 : decode cX5_poke 20 = .ok (.iload_n 3, 1) := by decide +kernel
theorem dX5_poke_21 : decode cX5_poke 21 = .ok (.sipush 255, 3) := by decide +kernel
theorem dX5_poke_24 : decode cX5_poke 24 = .ok (.if_icmp .le 5, 3) := by decide +kernel
theorem dX5_poke_27 : decode cX5_poke 27 = .ok (.iconst 0, 1) := by decide +kernel
theorem dX5_poke_28 : decode cX5_poke 28 = .ok (.ireturn, 1) := by decide +kernel
theorem dX5_poke_29 : decode cX5_poke 29 = .ok (.aload_n 0, 1) := by decide +kernel
theorem dX5_poke_30 : decode cX5_poke 30 = .ok (.getfield 12, 3) := by decide +kernel
theorem dX5_poke_33 : decode cX5_poke 33 = .ok (.iload_n 1, 1) := by decide +kernel
theorem dX5_poke_34 : decode cX5_poke 34 = .ok (.invokevirtual 62, 3) := by decide +kernel
theorem dX5_poke_37 : decode cX5_poke 37 = .ok (.astore 4, 2) := by decide +kernel
theorem dX5_poke_39 : decode cX5_poke 39 = .ok (.aload 4, 2) := by decide +kernel
theorem dX5_poke_41 : decode cX5_poke 41 = .ok (.iload_n 2, 1) := by decide +kernel
theorem dX5_poke_42 : decode cX5_poke 42 = .ok (.aload 4, 2) := by decide +kernel
theorem dX5_poke_44 : decode cX5_poke 44 = .ok (.iload_n 2, 1) := by decide +kernel
theorem dX5_poke_45 : decode cX5_poke 45 = .ok (.invokevirtual 171, 3) := by decide +kernel
theorem dX5_poke_48 : decode cX5_poke 48 = .ok (.iload_n 3, 1) := by decide +kernel
theorem dX5_poke_49 : decode cX5_poke 49 = .ok (.ixor, 1) := by decide +kernel
theorem dX5_poke_50 : decode cX5_poke 50 = .ok (.invokevirtual 174, 3) := by decide +kernel
theorem dX5_poke_53 : decode cX5_poke 53 = .ok (.iconst 1, 1) := by decide +kernel
theorem dX5_poke_54 : decode cX5_poke 54 = .ok (.ireturn, 1) := by decide +kernel
theorem dX5_torn_0 : decode cX5_torn 0 = .ok (.iload_n 1, 1) := by decide +kernel
theorem dX5_torn_1 : decode cX5_torn 1 = .ok (.iconst 0, 1) := by decide +kernel
theorem dX5_torn_2 : decode cX5_torn 2 = .ok (.invokestatic 167, 3) := by decide +kernel
theorem dX5_torn_5 : decode cX5_torn 5 = .ok (.ifCond .eq 21, 3) := by decide +kernel
theorem dX5_torn_8 : decode cX5_torn 8 = .ok (.aload_n 0, 1) := by decide +kernel
theorem dX5_torn_9 : decode cX5_torn 9 = .ok (.getfield 12, 3) := by decide +kernel
theorem dX5_torn_12 : decode cX5_torn 12 = .ok (.iload_n 1, 1) := by decide +kernel
theorem dX5_torn_13 : decode cX5_torn 13 = .ok (.invokevirtual 62, 3) := by decide +kernel
theorem dX5_torn_16 : decode cX5_torn 16 = .ok (.getfield 178, 3) := by decide +kernel
theorem dX5_torn_19 : decode cX5_torn 19 = .ok (.ifCond .eq 7, 3) := by decide +kernel
theorem dX5_torn_22 : decode cX5_torn 22 = .ok (.iconst 1, 1) := by decide +kernel
theorem dX5_torn_23 : decode cX5_torn 23 = .ok (.goto 4, 3) := by decide +kernel
theorem dX5_torn_26 : decode cX5_torn 26 = .ok (.iconst 0, 1) := by decide +kernel
theorem dX5_torn_27 : decode cX5_torn 27 = .ok (.ireturn, 1) := by decide +kernel
theorem dX5_count_0 : decode cX5_count 0 = .ok (.iload_n 1, 1) := by decide +kernel
theorem dX5_count_1 : decode cX5_count 1 = .ok (.lookupswitch 61 #[(0, 35), (6, 48), (7, 56)], 35) := by decide +kernel
theorem dX5_count_36 : decode cX5_count 36 = .ok (.aload_n 0, 1) := by decide +kernel
theorem dX5_count_37 : decode cX5_count 37 = .ok (.getfield 58, 3) := by decide +kernel
theorem dX5_count_40 : decode cX5_count 40 = .ok (.ifCond .eq 7, 3) := by decide +kernel
theorem dX5_count_43 : decode cX5_count 43 = .ok (.iconst 1, 1) := by decide +kernel
theorem dX5_count_44 : decode cX5_count 44 = .ok (.goto 4, 3) := by decide +kernel
theorem dX5_count_47 : decode cX5_count 47 = .ok (.iconst 0, 1) := by decide +kernel
theorem dX5_count_48 : decode cX5_count 48 = .ok (.ireturn, 1) := by decide +kernel
theorem dX5_count_49 : decode cX5_count 49 = .ok (.aload_n 0, 1) := by decide +kernel
theorem dX5_count_50 : decode cX5_count 50 = .ok (.getfield 12, 3) := by decide +kernel
theorem dX5_count_53 : decode cX5_count 53 = .ok (.getfield 181, 3) := by decide +kernel
theorem dX5_count_56 : decode cX5_count 56 = .ok (.ireturn, 1) := by decide +kernel
theorem dX5_count_57 : decode cX5_count 57 = .ok (.aload_n 0, 1) := by decide +kernel
theorem dX5_count_58 : decode cX5_count 58 = .ok (.getfield 55, 3) := by decide +kernel
theorem dX5_count_61 : decode cX5_count 61 = .ok (.ireturn, 1) := by decide +kernel
theorem dX5_count_62 : decode cX5_count 62 = .ok (.iload_n 1, 1) := by decide +kernel
theorem dX5_count_63 : decode cX5_count 63 = .ok (.ifCond .lt 9, 3) := by decide +kernel
theorem dX5_count_66 : decode cX5_count 66 = .ok (.iload_n 1, 1) := by decide +kernel
theorem dX5_count_67 : decode cX5_count 67 = .ok (.bipush 9, 2) := by decide +kernel
theorem dX5_count_69 : decode cX5_count 69 = .ok (.if_icmp .le 5, 3) := by decide +kernel
theorem dX5_count_72 : decode cX5_count 72 = .ok (.iconst (-1), 1) := by decide +kernel
theorem dX5_count_73 : decode cX5_count 73 = .ok (.ireturn, 1) := by decide +kernel
theorem dX5_count_74 : decode cX5_count 74 = .ok (.aload_n 0, 1) := by decide +kernel
theorem dX5_count_75 : decode cX5_count 75 = .ok (.getfield 58, 3) := by decide +kernel
theorem dX5_count_78 : decode cX5_count 78 = .ok (.ifCond .eq 11, 3) := by decide +kernel
theorem dX5_count_81 : decode cX5_count 81 = .ok (.aload_n 0, 1) := by decide +kernel
theorem dX5_count_82 : decode cX5_count 82 = .ok (.iload_n 1, 1) := by decide +kernel
theorem dX5_count_83 : decode cX5_count 83 = .ok (.invokevirtual 184, 3) := by decide +kernel
theorem dX5_count_86 : decode cX5_count 86 = .ok (.goto 5, 3) := by decide +kernel
theorem dX5_count_89 : decode cX5_count 89 = .ok (.bipush (-2), 2) := by decide +kernel
theorem dX5_count_91 : decode cX5_count 91 = .ok (.ireturn, 1) := by decide +kernel
theorem dX5_countWhileOn_0 : decode cX5_countWhileOn 0 = .ok (.iload_n 1, 1) := by decide +kernel
theorem dX5_countWhileOn_1 : decode cX5_countWhileOn 1 = .ok (.tableswitch 109 1 8 #[47, 55, 63, 71, 79, 109, 109, 87], 47) := by decide +kernel
theorem dX5_countWhileOn_48 : decode cX5_countWhileOn 48 = .ok (.aload_n 0, 1) := by decide +kernel
theorem dX5_countWhileOn_49 : decode cX5_countWhileOn 49 = .ok (.getfield 19, 3) := by decide +kernel
theorem dX5_countWhileOn_52 : decode cX5_countWhileOn 52 = .ok (.getfield 88, 3) := by decide +kernel
theorem dX5_countWhileOn_55 : decode cX5_countWhileOn 55 = .ok (.ireturn, 1) := by decide +kernel
theorem dX5_countWhileOn_56 : decode cX5_countWhileOn 56 = .ok (.aload_n 0, 1) := by decide +kernel
theorem dX5_countWhileOn_57 : decode cX5_countWhileOn 57 = .ok (.getfield 19, 3) := by decide +kernel
theorem dX5_countWhileOn_60 : decode cX5_countWhileOn 60 = .ok (.getfield 95, 3) := by decide +kernel
theorem dX5_countWhileOn_63 : decode cX5_countWhileOn 63 = .ok (.ireturn, 1) := by decide +kernel
theorem dX5_countWhileOn_64 : decode cX5_countWhileOn 64 = .ok (.aload_n 0, 1) := by decide +kernel
theorem dX5_countWhileOn_65 : decode cX5_countWhileOn 65 = .ok (.getfield 26, 3) := by decide +kernel
theorem dX5_countWhileOn_68 : decode cX5_countWhileOn 68 = .ok (.getfield 82, 3) := by decide +kernel
theorem dX5_countWhileOn_71 : decode cX5_countWhileOn 71 = .ok (.ireturn, 1) := by decide +kernel
theorem dX5_countWhileOn_72 : decode cX5_countWhileOn 72 = .ok (.aload_n 0, 1) := by decide +kernel
theorem dX5_countWhileOn_73 : decode cX5_countWhileOn 73 = .ok (.getfield 26, 3) := by decide +kernel
theorem dX5_countWhileOn_76 : decode cX5_countWhileOn 76 = .ok (.getfield 187, 3) := by decide +kernel
theorem dX5_countWhileOn_79 : decode cX5_countWhileOn 79 = .ok (.ireturn, 1) := by decide +kernel
theorem dX5_countWhileOn_80 : decode cX5_countWhileOn 80 = .ok (.aload_n 0, 1) := by decide +kernel
theorem dX5_countWhileOn_81 : decode cX5_countWhileOn 81 = .ok (.getfield 26, 3) := by decide +kernel
theorem dX5_countWhileOn_84 : decode cX5_countWhileOn 84 = .ok (.getfield 114, 3) := by decide +kernel
theorem dX5_countWhileOn_87 : decode cX5_countWhileOn 87 = .ok (.ireturn, 1) := by decide +kernel
theorem dX5_countWhileOn_88 : decode cX5_countWhileOn 88 = .ok (.aload_n 0, 1) := by decide +kernel
theorem dX5_countWhileOn_89 : decode cX5_countWhileOn 89 = .ok (.getfield 19, 3) := by decide +kernel
theorem dX5_countWhileOn_92 : decode cX5_countWhileOn 92 = .ok (.getfield 88, 3) := by decide +kernel
theorem dX5_countWhileOn_95 : decode cX5_countWhileOn 95 = .ok (.ifCond .ne 7, 3) := by decide +kernel
theorem dX5_countWhileOn_98 : decode cX5_countWhileOn 98 = .ok (.iconst (-1), 1) := by decide +kernel
theorem dX5_countWhileOn_99 : decode cX5_countWhileOn 99 = .ok (.goto 10, 3) := by decide +kernel
theorem dX5_countWhileOn_102 : decode cX5_countWhileOn 102 = .ok (.aload_n 0, 1) := by decide +kernel
theorem dX5_countWhileOn_103 : decode cX5_countWhileOn 103 = .ok (.getfield 19, 3) := by decide +kernel
theorem dX5_countWhileOn_106 : decode cX5_countWhileOn 106 = .ok (.getfield 102, 3) := by decide +kernel
theorem dX5_countWhileOn_109 : decode cX5_countWhileOn 109 = .ok (.ireturn, 1) := by decide +kernel
theorem dX5_countWhileOn_110 : decode cX5_countWhileOn 110 = .ok (.aload_n 0, 1) := by decide +kernel
theorem dX5_countWhileOn_111 : decode cX5_countWhileOn 111 = .ok (.getfield 12, 3) := by decide +kernel
theorem dX5_countWhileOn_114 : decode cX5_countWhileOn 114 = .ok (.invokevirtual 190, 3) := by decide +kernel
theorem dX5_countWhileOn_117 : decode cX5_countWhileOn 117 = .ok (.ireturn, 1) := by decide +kernel
theorem dX5_isTicks_0 : decode cX5_isTicks 0 = .ok (.iload_n 0, 1) := by decide +kernel
theorem dX5_isTicks_1 : decode cX5_isTicks 1 = .ok (.iconst 1, 1) := by decide +kernel
theorem dX5_isTicks_2 : decode cX5_isTicks 2 = .ok (.if_icmp .lt 14, 3) := by decide +kernel
theorem dX5_isTicks_5 : decode cX5_isTicks 5 = .ok (.iload_n 0, 1) := by decide +kernel
theorem dX5_isTicks_6 : decode cX5_isTicks 6 = .ok (.sipush 1000, 3) := by decide +kernel
theorem dX5_isTicks_9 : decode cX5_isTicks 9 = .ok (.if_icmp .gt 7, 3) := by decide +kernel
theorem dX5_isTicks_12 : decode cX5_isTicks 12 = .ok (.iconst 1, 1) := by decide +kernel
theorem dX5_isTicks_13 : decode cX5_isTicks 13 = .ok (.goto 4, 3) := by decide +kernel
theorem dX5_isTicks_16 : decode cX5_isTicks 16 = .ok (.iconst 0, 1) := by decide +kernel
theorem dX5_isTicks_17 : decode cX5_isTicks 17 = .ok (.ireturn, 1) := by decide +kernel
theorem dX5_isByte_0 : decode cX5_isByte 0 = .ok (.iload_n 0, 1) := by decide +kernel
theorem dX5_isByte_1 : decode cX5_isByte 1 = .ok (.ifCond .lt 23, 3) := by decide +kernel
theorem dX5_isByte_4 : decode cX5_isByte 4 = .ok (.iload_n 0, 1) := by decide +kernel
theorem dX5_isByte_5 : decode cX5_isByte 5 = .ok (.bipush 64, 2) := by decide +kernel
theorem dX5_isByte_7 : decode cX5_isByte 7 = .ok (.if_icmp .ge 17, 3) := by decide +kernel
theorem dX5_isByte_10 : decode cX5_isByte 10 = .ok (.iload_n 1, 1) := by decide +kernel
theorem dX5_isByte_11 : decode cX5_isByte 11 = .ok (.ifCond .lt 13, 3) := by decide +kernel
theorem dX5_isByte_14 : decode cX5_isByte 14 = .ok (.iload_n 1, 1) := by decide +kernel
theorem dX5_isByte_15 : decode cX5_isByte 15 = .ok (.bipush 64, 2) := by decide +kernel
theorem dX5_isByte_17 : decode cX5_isByte 17 = .ok (.if_icmp .ge 7, 3) := by decide +kernel
theorem dX5_isByte_20 : decode cX5_isByte 20 = .ok (.iconst 1, 1) := by decide +kernel
theorem dX5_isByte_21 : decode cX5_isByte 21 = .ok (.goto 4, 3) := by decide +kernel
theorem dX5_isByte_24 : decode cX5_isByte 24 = .ok (.iconst 0, 1) := by decide +kernel
theorem dX5_isByte_25 : decode cX5_isByte 25 = .ok (.ireturn, 1) := by decide +kernel
theorem dX5_powerGoes_0 : decode cX5_powerGoes 0 = .ok (.aload_n 0, 1) := by decide +kernel
theorem dX5_powerGoes_1 : decode cX5_powerGoes 1 = .ok (.iconst 0, 1) := by decide +kernel
theorem dX5_powerGoes_2 : decode cX5_powerGoes 2 = .ok (.putfield 58, 3) := by decide +kernel
theorem dX5_powerGoes_5 : decode cX5_powerGoes 5 = .ok (.aload_n 0, 1) := by decide +kernel
theorem dX5_powerGoes_6 : decode cX5_powerGoes 6 = .ok (.getfield 19, 3) := by decide +kernel
theorem dX5_powerGoes_9 : decode cX5_powerGoes 9 = .ok (.invokevirtual 201, 3) := by decide +kernel
theorem dX5_powerGoes_12 : decode cX5_powerGoes 12 = .ok (.aload_n 0, 1) := by decide +kernel
theorem dX5_powerGoes_13 : decode cX5_powerGoes 13 = .ok (.getfield 12, 3) := by decide +kernel
theorem dX5_powerGoes_16 : decode cX5_powerGoes 16 = .ok (.iconst (-1), 1) := by decide +kernel
theorem dX5_powerGoes_17 : decode cX5_powerGoes 17 = .ok (.putfield 131, 3) := by decide +kernel
theorem dX5_powerGoes_20 : decode cX5_powerGoes 20 = .ok (.return_, 1) := by decide +kernel
theorem dX5_writeDraft_0 : decode cX5_writeDraft 0 = .ok (.aload_n 0, 1) := by decide +kernel
theorem dX5_writeDraft_1 : decode cX5_writeDraft 1 = .ok (.getfield 12, 3) := by decide +kernel
theorem dX5_writeDraft_4 : decode cX5_writeDraft 4 = .ok (.iload_n 1, 1) := by decide +kernel
theorem dX5_writeDraft_5 : decode cX5_writeDraft 5 = .ok (.aload_n 0, 1) := by decide +kernel
theorem dX5_writeDraft_6 : decode cX5_writeDraft 6 = .ok (.getfield 40, 3) := by decide +kernel
theorem dX5_writeDraft_9 : decode cX5_writeDraft 9 = .ok (.invokevirtual 204, 3) := by decide +kernel
theorem dX5_writeDraft_12 : decode cX5_writeDraft 12 = .ok (.istore_n 2, 1) := by decide +kernel
theorem dX5_writeDraft_13 : decode cX5_writeDraft 13 = .ok (.iload_n 2, 1) := by decide +kernel
theorem dX5_writeDraft_14 : decode cX5_writeDraft 14 = .ok (.ifCond .ne 7, 3) := by decide +kernel
theorem dX5_writeDraft_17 : decode cX5_writeDraft 17 = .ok (.aload_n 0, 1) := by decide +kernel
theorem dX5_writeDraft_18 : decode cX5_writeDraft 18 = .ok (.invokevirtual 128, 3) := by decide +kernel
theorem dX5_writeDraft_21 : decode cX5_writeDraft 21 = .ok (.iload_n 2, 1) := by decide +kernel
theorem dX5_writeDraft_22 : decode cX5_writeDraft 22 = .ok (.ireturn, 1) := by decide +kernel
theorem dX5_writeHead_0 : decode cX5_writeHead 0 = .ok (.aload_n 0, 1) := by decide +kernel
theorem dX5_writeHead_1 : decode cX5_writeHead 1 = .ok (.getfield 12, 3) := by decide +kernel
theorem dX5_writeHead_4 : decode cX5_writeHead 4 = .ok (.invokevirtual 190, 3) := by decide +kernel
theorem dX5_writeHead_7 : decode cX5_writeHead 7 = .ok (.iconst 1, 1) := by decide +kernel
theorem dX5_writeHead_8 : decode cX5_writeHead 8 = .ok (.iadd, 1) := by decide +kernel
theorem dX5_writeHead_9 : decode cX5_writeHead 9 = .ok (.istore 4, 2) := by decide +kernel
theorem dX5_writeHead_11 : decode cX5_writeHead 11 = .ok (.aload_n 0, 1) := by decide +kernel
theorem dX5_writeHead_12 : decode cX5_writeHead 12 = .ok (.getfield 12, 3) := by decide +kernel
theorem dX5_writeHead_15 : decode cX5_writeHead 15 = .ok (.invokevirtual 137, 3) := by decide +kernel
theorem dX5_writeHead_18 : decode cX5_writeHead 18 = .ok (.ifCond .ne 7, 3) := by decide +kernel
theorem dX5_writeHead_21 : decode cX5_writeHead 21 = .ok (.iconst 1, 1) := by decide +kernel
theorem dX5_writeHead_22 : decode cX5_writeHead 22 = .ok (.goto 4, 3) := by decide +kernel
theorem dX5_writeHead_25 : decode cX5_writeHead 25 = .ok (.iconst 0, 1) := by decide +kernel
theorem dX5_writeHead_26 : decode cX5_writeHead 26 = .ok (.istore 5, 2) := by decide +kernel
theorem dX5_writeHead_28 : decode cX5_writeHead 28 = .ok (.aload_n 0, 1) := by decide +kernel
theorem dX5_writeHead_29 : decode cX5_writeHead 29 = .ok (.getfield 40, 3) := by decide +kernel
theorem dX5_writeHead_32 : decode cX5_writeHead 32 = .ok (.iload 4, 2) := by decide +kernel
theorem dX5_writeHead_34 : decode cX5_writeHead 34 = .ok (.iload_n 1, 1) := by decide +kernel
theorem dX5_writeHead_35 : decode cX5_writeHead 35 = .ok (.iload_n 2, 1) := by decide +kernel
theorem dX5_writeHead_36 : decode cX5_writeHead 36 = .ok (.iload_n 3, 1) := by decide +kernel
theorem dX5_writeHead_37 : decode cX5_writeHead 37 = .ok (.invokevirtual 66, 3) := by decide +kernel
theorem dX5_writeHead_40 : decode cX5_writeHead 40 = .ok (.aload_n 0, 1) := by decide +kernel
theorem dX5_writeHead_41 : decode cX5_writeHead 41 = .ok (.iload 5, 2) := by decide +kernel
theorem dX5_writeHead_43 : decode cX5_writeHead 43 = .ok (.invokevirtual 208, 3) := by decide +kernel
theorem dX5_writeHead_46 : decode cX5_writeHead 46 = .ok (.ireturn, 1) := by decide +kernel
theorem dX5_writeQueue_0 : decode cX5_writeQueue 0 = .ok (.aload_n 0, 1) := by decide +kernel
theorem dX5_writeQueue_1 : decode cX5_writeQueue 1 = .ok (.getfield 26, 3) := by decide +kernel
theorem dX5_writeQueue_4 : decode cX5_writeQueue 4 = .ok (.getfield 187, 3) := by decide +kernel
theorem dX5_writeQueue_7 : decode cX5_writeQueue 7 = .ok (.istore_n 1, 1) := by decide +kernel
theorem dX5_writeQueue_8 : decode cX5_writeQueue 8 = .ok (.aload_n 0, 1) := by decide +kernel
theorem dX5_writeQueue_9 : decode cX5_writeQueue 9 = .ok (.getfield 19, 3) := by decide +kernel
theorem dX5_writeQueue_12 : decode cX5_writeQueue 12 = .ok (.iconst 0, 1) := by decide +kernel
theorem dX5_writeQueue_13 : decode cX5_writeQueue 13 = .ok (.invokevirtual 78, 3) := by decide +kernel
theorem dX5_writeQueue_16 : decode cX5_writeQueue 16 = .ok (.istore_n 2, 1) := by decide +kernel
theorem dX5_writeQueue_17 : decode cX5_writeQueue 17 = .ok (.aload_n 0, 1) := by decide +kernel
theorem dX5_writeQueue_18 : decode cX5_writeQueue 18 = .ok (.getfield 12, 3) := by decide +kernel
theorem dX5_writeQueue_21 : decode cX5_writeQueue 21 = .ok (.invokevirtual 190, 3) := by decide +kernel
theorem dX5_writeQueue_24 : decode cX5_writeQueue 24 = .ok (.istore_n 3, 1) := by decide +kernel
theorem dX5_writeQueue_25 : decode cX5_writeQueue 25 = .ok (.iconst 0, 1) := by decide +kernel
theorem dX5_writeQueue_26 : decode cX5_writeQueue 26 = .ok (.istore 4, 2) := by decide +kernel
theorem dX5_writeQueue_28 : decode cX5_writeQueue 28 = .ok (.iconst 0, 1) := by decide +kernel
theorem dX5_writeQueue_29 : decode cX5_writeQueue 29 = .ok (.istore 5, 2) := by decide +kernel
theorem dX5_writeQueue_31 : decode cX5_writeQueue 31 = .ok (.iload 5, 2) := by decide +kernel
theorem dX5_writeQueue_33 : decode cX5_writeQueue 33 = .ok (.iload_n 2, 1) := by decide +kernel
theorem dX5_writeQueue_34 : decode cX5_writeQueue 34 = .ok (.if_icmp .ge 69, 3) := by decide +kernel
theorem dX5_writeQueue_37 : decode cX5_writeQueue 37 = .ok (.aload_n 0, 1) := by decide +kernel
theorem dX5_writeQueue_38 : decode cX5_writeQueue 38 = .ok (.getfield 58, 3) := by decide +kernel
theorem dX5_writeQueue_41 : decode cX5_writeQueue 41 = .ok (.ifCond .eq 62, 3) := by decide +kernel
theorem dX5_writeQueue_44 : decode cX5_writeQueue 44 = .ok (.aload_n 0, 1) := by decide +kernel
theorem dX5_writeQueue_45 : decode cX5_writeQueue 45 = .ok (.getfield 19, 3) := by decide +kernel
theorem dX5_writeQueue_48 : decode cX5_writeQueue 48 = .ok (.aload_n 0, 1) := by decide +kernel
theorem dX5_writeQueue_49 : decode cX5_writeQueue 49 = .ok (.getfield 40, 3) := by decide +kernel
theorem dX5_writeQueue_52 : decode cX5_writeQueue 52 = .ok (.iload 5, 2) := by decide +kernel
theorem dX5_writeQueue_54 : decode cX5_writeQueue 54 = .ok (.invokevirtual 211, 3) := by decide +kernel
theorem dX5_writeQueue_57 : decode cX5_writeQueue 57 = .ok (.aload_n 0, 1) := by decide +kernel
theorem dX5_writeQueue_58 : decode cX5_writeQueue 58 = .ok (.getfield 40, 3) := by decide +kernel
theorem dX5_writeQueue_61 : decode cX5_writeQueue 61 = .ok (.aload_n 0, 1) := by decide +kernel
theorem dX5_writeQueue_62 : decode cX5_writeQueue 62 = .ok (.getfield 26, 3) := by decide +kernel
theorem dX5_writeQueue_65 : decode cX5_writeQueue 65 = .ok (.getfield 114, 3) := by decide +kernel
theorem dX5_writeQueue_68 : decode cX5_writeQueue 68 = .ok (.iload_n 3, 1) := by decide +kernel
theorem dX5_writeQueue_69 : decode cX5_writeQueue 69 = .ok (.invokevirtual 215, 3) := by decide +kernel
theorem dX5_writeQueue_72 : decode cX5_writeQueue 72 = .ok (.aload_n 0, 1) := by decide +kernel
theorem dX5_writeQueue_73 : decode cX5_writeQueue 73 = .ok (.aload_n 0, 1) := by decide +kernel
theorem dX5_writeQueue_74 : decode cX5_writeQueue 74 = .ok (.getfield 26, 3) := by decide +kernel
theorem dX5_writeQueue_77 : decode cX5_writeQueue 77 = .ok (.getfield 187, 3) := by decide +kernel
theorem dX5_writeQueue_80 : decode cX5_writeQueue 80 = .ok (.invokevirtual 208, 3) := by decide +kernel
theorem dX5_writeQueue_83 : decode cX5_writeQueue 83 = .ok (.ifCond .eq 14, 3) := by decide +kernel
theorem dX5_writeQueue_86 : decode cX5_writeQueue 86 = .ok (.aload_n 0, 1) := by decide +kernel
theorem dX5_writeQueue_87 : decode cX5_writeQueue 87 = .ok (.getfield 26, 3) := by decide +kernel
theorem dX5_writeQueue_90 : decode cX5_writeQueue 90 = .ok (.iconst 1, 1) := by decide +kernel
theorem dX5_writeQueue_91 : decode cX5_writeQueue 91 = .ok (.invokevirtual 218, 3) := by decide +kernel
theorem dX5_writeQueue_94 : decode cX5_writeQueue 94 = .ok (.iinc 4 1, 3) := by decide +kernel
theorem dX5_writeQueue_97 : decode cX5_writeQueue 97 = .ok (.iinc 5 1, 3) := by decide +kernel
theorem dX5_writeQueue_100 : decode cX5_writeQueue 100 = .ok (.goto (-69), 3) := by decide +kernel
theorem dX5_writeQueue_103 : decode cX5_writeQueue 103 = .ok (.iload 4, 2) := by decide +kernel
theorem dX5_writeQueue_105 : decode cX5_writeQueue 105 = .ok (.ifCond .le 13, 3) := by decide +kernel
theorem dX5_writeQueue_108 : decode cX5_writeQueue 108 = .ok (.aload_n 0, 1) := by decide +kernel
theorem dX5_writeQueue_109 : decode cX5_writeQueue 109 = .ok (.dup, 1) := by decide +kernel
theorem dX5_writeQueue_110 : decode cX5_writeQueue 110 = .ok (.getfield 55, 3) := by decide +kernel
theorem dX5_writeQueue_113 : decode cX5_writeQueue 113 = .ok (.iconst 1, 1) := by decide +kernel
theorem dX5_writeQueue_114 : decode cX5_writeQueue 114 = .ok (.iadd, 1) := by decide +kernel
theorem dX5_writeQueue_115 : decode cX5_writeQueue 115 = .ok (.putfield 55, 3) := by decide +kernel
theorem dX5_writeQueue_118 : decode cX5_writeQueue 118 = .ok (.aload_n 0, 1) := by decide +kernel
theorem dX5_writeQueue_119 : decode cX5_writeQueue 119 = .ok (.getfield 58, 3) := by decide +kernel
theorem dX5_writeQueue_122 : decode cX5_writeQueue 122 = .ok (.ifCond .eq 22, 3) := by decide +kernel
theorem dX5_writeQueue_125 : decode cX5_writeQueue 125 = .ok (.aload_n 0, 1) := by decide +kernel
theorem dX5_writeQueue_126 : decode cX5_writeQueue 126 = .ok (.getfield 19, 3) := by decide +kernel
theorem dX5_writeQueue_129 : decode cX5_writeQueue 129 = .ok (.aload_n 0, 1) := by decide +kernel
theorem dX5_writeQueue_130 : decode cX5_writeQueue 130 = .ok (.getfield 26, 3) := by decide +kernel
theorem dX5_writeQueue_133 : decode cX5_writeQueue 133 = .ok (.iload_n 1, 1) := by decide +kernel
theorem dX5_writeQueue_134 : decode cX5_writeQueue 134 = .ok (.invokevirtual 222, 3) := by decide +kernel
theorem dX5_writeQueue_137 : decode cX5_writeQueue 137 = .ok (.aload_n 0, 1) := by decide +kernel
theorem dX5_writeQueue_138 : decode cX5_writeQueue 138 = .ok (.getfield 19, 3) := by decide +kernel
theorem dX5_writeQueue_141 : decode cX5_writeQueue 141 = .ok (.invokevirtual 201, 3) := by decide +kernel
theorem dX5_writeQueue_144 : decode cX5_writeQueue 144 = .ok (.iload 4, 2) := by decide +kernel
theorem dX5_writeQueue_146 : decode cX5_writeQueue 146 = .ok (.ireturn, 1) := by decide +kernel
end
section
set_option maxRecDepth 20000 in
theorem ggX6_init_X6_makeHead : GoodIn wsX6_init wsX6_makeHead := goodIn_r _ [30, 15, 16, 17, 24, 18, 31, 32, 33, 29, 34, 35, 36, 37, 38, 39, 40, 41, 42, 43, 44, 45, 46, 47, 48, 49, 50, 51, 52, 53, 54, 55, 56, 57, 58, 59, 60, 61, 62, 63, 64, 65, 66, 67, 68, 69, 70, 71, 72, 73, 74, 75, 76, 77, 78, 79] (by decide +kernel) (by decide +kernel)
set_option maxRecDepth 20000 in
theorem gX6_init_X6_makeHead : GoodIn wsX6_init (wsV RX6 71 RX6 yX6_makeHead wsX6_makeHead) := goodIn_app (goodIn_of _ (by decide +kernel)) ggX6_init_X6_makeHead
set_option maxRecDepth 20000 in
theorem ggX6_headSum_X6_add : GoodIn wsX6_headSum wsX6_add := goodIn_r _ [4, 5] (by decide +kernel) (by decide +kernel)
set_option maxRecDepth 20000 in
theorem gX6_headSum_X6_add : GoodIn wsX6_headSum (va_wsS RX6 75 yX6_add wsX6_add) := goodIn_app (goodIn_of _ (by decide +kernel)) ggX6_headSum_X6_add
set_option maxRecDepth 20000 in
theorem ggX6_makeHead_X6_clear : GoodIn wsX6_makeHead wsX6_clear := goodIn_r _ [10, 4, 22, 23, 24, 25, 26, 27, 28, 29, 30, 31, 32, 33, 34, 35, 36, 37, 38, 39, 40, 41, 42, 43, 44, 45, 46, 47, 48, 49, 50, 51, 52, 53, 54, 55] (by decide +kernel) (by decide +kernel)
set_option maxRecDepth 20000 in
theorem gX6_makeHead_X6_clear : GoodIn wsX6_makeHead (wsV RX6 79 RX6 yX6_clear wsX6_clear) := goodIn_app (goodIn_of _ (by decide +kernel)) ggX6_makeHead_X6_clear
set_option maxRecDepth 20000 in
theorem ggX6_makeHead_X6_set : GoodIn wsX6_makeHead wsX6_set := goodIn_r _ [14, 4, 22, 23, 24, 25, 26, 27, 28, 29, 30, 31, 32, 33, 34, 35, 36, 37, 38, 39, 40, 41, 42, 43, 44, 45, 46, 47, 48, 49, 50, 51, 52, 53, 54, 55] (by decide +kernel) (by decide +kernel)
set_option maxRecDepth 20000 in
theorem gX6_makeHead_X6_set : GoodIn wsX6_makeHead (wsV RX6 82 RX6 yX6_set wsX6_set) := goodIn_app (goodIn_of _ (by decide +kernel)) ggX6_makeHead_X6_set
set_option maxRecDepth 20000 in
theorem ggX6_makeHead_X6_headSum : GoodIn wsX6_makeHead wsX6_headSum := goodIn_r _ [17, 18, 19, 9, 20, 21] (by decide +kernel) (by decide +kernel)
set_option maxRecDepth 20000 in
theorem gX6_makeHead_X6_headSum : GoodIn wsX6_makeHead (va_wsS RX6 86 yX6_headSum wsX6_headSum) := goodIn_app (goodIn_of _ (by decide +kernel)) ggX6_makeHead_X6_headSum
set_option maxRecDepth 20000 in
theorem ggX6_write_X6_goOff : GoodIn wsX6_write wsX6_goOff := goodIn_r _ [11, 12, 1, 13, 14, 15, 16, 17, 18, 19, 20, 21, 22, 23, 24, 25, 26, 27, 28, 29, 30, 31, 32, 33, 34, 35, 36, 37, 38, 39, 40, 41, 42, 43, 44, 45, 46, 47, 48, 49] (by decide +kernel) (by decide +kernel)
set_option maxRecDepth 20000 in
theorem gX6_write_X6_goOff : GoodIn wsX6_write (wsV RX6 93 RX6 yX6_goOff wsX6_goOff) := goodIn_app (goodIn_of _ (by decide +kernel)) ggX6_write_X6_goOff
set_option maxRecDepth 20000 in
theorem ggX6_flush_X6_flushAll : GoodIn wsX6_flush wsX6_flushAll := goodIn_r _ [6, 7, 8, 9, 10, 11, 12, 13, 14, 15, 16, 17, 18, 19, 20, 21, 22, 23, 24, 5, 25, 26, 27, 28, 29, 30, 31, 32, 33, 34, 35, 36, 37, 38, 39, 40, 41, 42, 43, 44, 45, 46, 47, 48, 49, 1, 50, 51, 52, 53, 54, 55, 56, 57, 58, 59, 60, 61, 62, 63, 64, 65, 66, 67, 68, 69, 70, 71, 72, 73, 74, 75, 76, 77, 78, 79, 80, 81, 82, 83] (by decide +kernel) (by decide +kernel)
set_option maxRecDepth 20000 in
theorem gX6_flush_X6_flushAll : GoodIn wsX6_flush (wsV RX6 122 RX6 yX6_flushAll wsX6_flushAll) := goodIn_app (goodIn_of _ (by decide +kernel)) ggX6_flush_X6_flushAll
set_option maxRecDepth 20000 in
theorem ggX6_checkpoint_X6_makeHead : GoodIn wsX6_checkpoint wsX6_makeHead := goodIn_r _ [22, 7, 8, 2, 23, 9, 24, 25, 26, 16, 27, 28, 29, 30, 31, 32, 33, 34, 35, 36, 37, 38, 54, 55, 56, 57, 58, 59, 60, 61, 62, 63, 64, 65, 66, 67, 68, 69, 70, 71, 72, 73, 74, 75, 76, 77, 78, 79, 80, 81, 82, 83, 84, 85, 86, 87] (by decide +kernel) (by decide +kernel)
set_option maxRecDepth 20000 in
theorem gX6_checkpoint_X6_makeHead : GoodIn wsX6_checkpoint (wsV RX6 71 RX6 yX6_makeHead wsX6_makeHead) := goodIn_app (goodIn_of _ (by decide +kernel)) ggX6_checkpoint_X6_makeHead
set_option maxRecDepth 20000 in
theorem ggX6_checkpoint_X6_write : GoodIn wsX6_checkpoint wsX6_write := goodIn_r _ [42, 43, 44, 18, 23, 45, 46, 47, 48, 49, 16, 50, 1, 51, 52, 53, 54, 55, 56, 57, 58, 59, 60, 61, 62, 63, 64, 65, 66, 67, 68, 69, 70, 71, 72, 73, 74, 75, 76, 77, 78, 79, 80, 81, 82, 83, 84, 85, 86, 87] (by decide +kernel) (by decide +kernel)
set_option maxRecDepth 20000 in
theorem gX6_checkpoint_X6_write : GoodIn wsX6_checkpoint (wsV RX6 128 RX6 yX6_write wsX6_write) := goodIn_app (goodIn_of _ (by decide +kernel)) ggX6_checkpoint_X6_write
set_option maxRecDepth 20000 in
theorem ggX6_cut_X6_goOff : GoodIn wsX6_cut wsX6_goOff := goodIn_r _ [6, 1, 7, 8, 9, 10, 11, 12, 13, 14, 15, 16, 17, 18, 19, 20, 21, 22, 23, 24, 25, 26, 27, 28, 29, 30, 31, 32, 33, 34, 35, 36, 37, 38, 39, 40, 41, 42, 43, 44] (by decide +kernel) (by decide +kernel)
set_option maxRecDepth 20000 in
theorem gX6_cut_X6_goOff : GoodIn wsX6_cut (wsV RX6 93 RX6 yX6_goOff wsX6_goOff) := goodIn_app (goodIn_of _ (by decide +kernel)) ggX6_cut_X6_goOff
set_option maxRecDepth 20000 in
theorem ggX6_at_X6_size : GoodIn wsX6_at wsX6_size := goodIn_r _ [10, 1, 2, 11, 12, 16, 17, 18, 19, 20, 21, 22, 23, 24, 25, 26, 27, 28, 29, 30, 31, 32, 33, 34, 35, 36, 37, 38, 39, 40, 41, 42, 43, 44, 45, 46, 47, 48, 49] (by decide +kernel) (by decide +kernel)
set_option maxRecDepth 20000 in
theorem gX6_at_X6_size : GoodIn wsX6_at (wsV RX6 183 RX6 yX6_size wsX6_size) := goodIn_app (goodIn_of _ (by decide +kernel)) ggX6_at_X6_size
set_option maxRecDepth 20000 in
theorem ggX6_disk_X6_isByte : GoodIn wsX6_disk wsX6_isByte := goodIn_r _ [5] (by decide +kernel) (by decide +kernel)
set_option maxRecDepth 20000 in
theorem gX6_disk_X6_isByte : GoodIn wsX6_disk (va_wsS RX6 186 yX6_isByte wsX6_isByte) := goodIn_app (goodIn_of _ (by decide +kernel)) ggX6_disk_X6_isByte
set_option maxRecDepth 20000 in
theorem ggX6_count_X6_used : GoodIn wsX6_count wsX6_used := goodIn_r _ [14, 5, 15, 16, 17, 18, 19, 20, 21, 22, 23, 24, 25, 26, 27, 28, 29, 30, 31, 32, 33, 34, 35, 36, 37, 38, 39, 40, 41, 42, 43, 44, 45, 46, 47, 48, 49] (by decide +kernel) (by decide +kernel)
set_option maxRecDepth 20000 in
theorem gX6_count_X6_used : GoodIn wsX6_count (wsV RX6 111 RX6 yX6_used wsX6_used) := goodIn_app (goodIn_of _ (by decide +kernel)) ggX6_count_X6_used
theorem dX6_init_0 : decode cX6_init 0 = .ok (.aload_n 0, 1) := by decide +kernel
theorem dX6_init_1 : decode cX6_init 1 = .ok (.invokespecial 1, 3) := by decide +kernel
theorem dX6_init_4 : decode cX6_init 4 = .ok (.aload_n 0, 1) := by decide +kernel
theorem dX6_init_5 : decode cX6_init 5 = .ok (.sipush 4096, 3) := by decide +kernel
theorem dX6_init_8 : decode cX6_init 8 = .ok (.newarray .byte, 2) := by decide +kernel
theorem dX6_init_10 : decode cX6_init 10 = .ok (.putfield 7, 3) := by decide +kernel
theorem dX6_init_13 : decode cX6_init 13 = .ok (.aload_n 0, 1) := by decide +kernel
theorem dX6_init_14 : decode cX6_init 14 = .ok (.bipush 64, 2) := by decide +kernel
theorem dX6_init_16 : decode cX6_init 16 = .ok (.newarray .boolean, 2) := by decide +kernel
theorem dX6_init_18 : decode cX6_init 18 = .ok (.putfield 13, 3) := by decide +kernel
theorem dX6_init_21 : decode cX6_init 21 = .ok (.aload_n 0, 1) := by decide +kernel
theorem dX6_init_22 : decode cX6_init 22 = .ok (.iconst 1, 1) := by decide +kernel
theorem dX6_init_23 : decode cX6_init 23 = .ok (.putfield 17, 3) := by decide +kernel
theorem dX6_init_26 : decode cX6_init 26 = .ok (.aload_n 0, 1) := by decide +kernel
theorem dX6_init_27 : decode cX6_init 27 = .ok (.iconst (-1), 1) := by decide +kernel
theorem dX6_init_28 : decode cX6_init 28 = .ok (.putfield 21, 3) := by decide +kernel
theorem dX6_init_31 : decode cX6_init 31 = .ok (.aload_n 0, 1) := by decide +kernel
theorem dX6_init_32 : decode cX6_init 32 = .ok (.bipush 10, 2) := by decide +kernel
theorem dX6_init_34 : decode cX6_init 34 = .ok (.putfield 25, 3) := by decide +kernel
theorem dX6_init_37 : decode cX6_init 37 = .ok (.aload_n 0, 1) := by decide +kernel
theorem dX6_init_38 : decode cX6_init 38 = .ok (.sipush 200, 3) := by decide +kernel
theorem dX6_init_41 : decode cX6_init 41 = .ok (.newarray .byte, 2) := by decide +kernel
theorem dX6_init_43 : decode cX6_init 43 = .ok (.putfield 28, 3) := by decide +kernel
theorem dX6_init_46 : decode cX6_init 46 = .ok (.aload_n 0, 1) := by decide +kernel
theorem dX6_init_47 : decode cX6_init 47 = .ok (.sipush 700, 3) := by decide +kernel
theorem dX6_init_50 : decode cX6_init 50 = .ok (.newarray .byte, 2) := by decide +kernel
theorem dX6_init_52 : decode cX6_init 52 = .ok (.putfield 31, 3) := by decide +kernel
theorem dX6_init_55 : decode cX6_init 55 = .ok (.aload_n 0, 1) := by decide +kernel
theorem dX6_init_56 : decode cX6_init 56 = .ok (.bipush 120, 2) := by decide +kernel
theorem dX6_init_58 : decode cX6_init 58 = .ok (.newarray .int, 2) := by decide +kernel
theorem dX6_init_60 : decode cX6_init 60 = .ok (.putfield 34, 3) := by decide +kernel
theorem dX6_init_63 : decode cX6_init 63 = .ok (.aload_n 0, 1) := by decide +kernel
theorem dX6_init_64 : decode cX6_init 64 = .ok (.iconst 1, 1) := by decide +kernel
theorem dX6_init_65 : decode cX6_init 65 = .ok (.putfield 38, 3) := by decide +kernel
theorem dX6_init_68 : decode cX6_init 68 = .ok (.aload_n 0, 1) := by decide +kernel
theorem dX6_init_69 : decode cX6_init 69 = .ok (.iconst 1, 1) := by decide +kernel
theorem dX6_init_70 : decode cX6_init 70 = .ok (.putfield 41, 3) := by decide +kernel
theorem dX6_init_73 : decode cX6_init 73 = .ok (.aload_n 0, 1) := by decide +kernel
theorem dX6_init_74 : decode cX6_init 74 = .ok (.iconst 1, 1) := by decide +kernel
theorem dX6_init_75 : decode cX6_init 75 = .ok (.putfield 44, 3) := by decide +kernel
theorem dX6_init_78 : decode cX6_init 78 = .ok (.aload_n 0, 1) := by decide +kernel
theorem dX6_init_79 : decode cX6_init 79 = .ok (.iconst 2, 1) := by decide +kernel
theorem dX6_init_80 : decode cX6_init 80 = .ok (.putfield 47, 3) := by decide +kernel
theorem dX6_init_83 : decode cX6_init 83 = .ok (.aload_n 0, 1) := by decide +kernel
theorem dX6_init_84 : decode cX6_init 84 = .ok (.iconst 2, 1) := by decide +kernel
theorem dX6_init_85 : decode cX6_init 85 = .ok (.putfield 50, 3) := by decide +kernel
theorem dX6_init_88 : decode cX6_init 88 = .ok (.aload_n 0, 1) := by decide +kernel
theorem dX6_init_89 : decode cX6_init 89 = .ok (.iconst 1, 1) := by decide +kernel
theorem dX6_init_90 : decode cX6_init 90 = .ok (.putfield 53, 3) := by decide +kernel
theorem dX6_init_93 : decode cX6_init 93 = .ok (.aload_n 0, 1) := by decide +kernel
theorem dX6_init_94 : decode cX6_init 94 = .ok (.sipush 600, 3) := by decide +kernel
theorem dX6_init_97 : decode cX6_init 97 = .ok (.newarray .int, 2) := by decide +kernel
theorem dX6_init_99 : decode cX6_init 99 = .ok (.putfield 56, 3) := by decide +kernel
theorem dX6_init_102 : decode cX6_init 102 = .ok (.aload_n 0, 1) := by decide +kernel
theorem dX6_init_103 : decode cX6_init 103 = .ok (.sipush 600, 3) := by decide +kernel
theorem dX6_init_106 : decode cX6_init 106 = .ok (.newarray .int, 2) := by decide +kernel
theorem dX6_init_108 : decode cX6_init 108 = .ok (.putfield 59, 3) := by decide +kernel
theorem dX6_init_111 : decode cX6_init 111 = .ok (.aload_n 0, 1) := by decide +kernel
theorem dX6_init_112 : decode cX6_init 112 = .ok (.sipush 600, 3) := by decide +kernel
theorem dX6_init_115 : decode cX6_init 115 = .ok (.newarray .int, 2) := by decide +kernel
theorem dX6_init_117 : decode cX6_init 117 = .ok (.putfield 62, 3) := by decide +kernel
theorem dX6_init_120 : decode cX6_init 120 = .ok (.aload_n 0, 1) := by decide +kernel
theorem dX6_init_121 : decode cX6_init 121 = .ok (.bipush 64, 2) := by decide +kernel
theorem dX6_init_123 : decode cX6_init 123 = .ok (.newarray .byte, 2) := by decide +kernel
theorem dX6_init_125 : decode cX6_init 125 = .ok (.putfield 65, 3) := by decide +kernel
theorem dX6_init_128 : decode cX6_init 128 = .ok (.aload_n 0, 1) := by decide +kernel
theorem dX6_init_129 : decode cX6_init 129 = .ok (.bipush 6, 2) := by decide +kernel
theorem dX6_init_131 : decode cX6_init 131 = .ok (.newarray .int, 2) := by decide +kernel
theorem dX6_init_133 : decode cX6_init 133 = .ok (.putfield 68, 3) := by decide +kernel
theorem dX6_init_136 : decode cX6_init 136 = .ok (.aload_n 0, 1) := by decide +kernel
theorem dX6_init_137 : decode cX6_init 137 = .ok (.invokevirtual 71, 3) := by decide +kernel
theorem dX6_init_140 : decode cX6_init 140 = .ok (.iconst 0, 1) := by decide +kernel
theorem dX6_init_141 : decode cX6_init 141 = .ok (.istore_n 1, 1) := by decide +kernel
theorem dX6_init_142 : decode cX6_init 142 = .ok (.iload_n 1, 1) := by decide +kernel
theorem dX6_init_143 : decode cX6_init 143 = .ok (.bipush 64, 2) := by decide +kernel
theorem dX6_init_145 : decode cX6_init 145 = .ok (.if_icmp .ge 21, 3) := by decide +kernel
theorem dX6_init_148 : decode cX6_init 148 = .ok (.aload_n 0, 1) := by decide +kernel
theorem dX6_init_149 : decode cX6_init 149 = .ok (.getfield 7, 3) := by decide +kernel
theorem dX6_init_152 : decode cX6_init 152 = .ok (.iload_n 1, 1) := by decide +kernel
theorem dX6_init_153 : decode cX6_init 153 = .ok (.aload_n 0, 1) := by decide +kernel
theorem dX6_init_154 : decode cX6_init 154 = .ok (.getfield 65, 3) := by decide +kernel
theorem dX6_init_157 : decode cX6_init 157 = .ok (.iload_n 1, 1) := by decide +kernel
theorem dX6_init_158 : decode cX6_init 158 = .ok (.baload, 1) := by decide +kernel
theorem dX6_init_159 : decode cX6_init 159 = .ok (.bastore, 1) := by decide +kernel
theorem dX6_init_160 : decode cX6_init 160 = .ok (.iinc 1 1, 3) := by decide +kernel
theorem dX6_init_163 : decode cX6_init 163 = .ok (.goto (-21), 3) := by decide +kernel
theorem dX6_init_166 : decode cX6_init 166 = .ok (.return_, 1) := by decide +kernel
theorem dX6_add_0 : decode cX6_add 0 = .ok (.iload_n 0, 1) := by decide +kernel
theorem dX6_add_1 : decode cX6_add 1 = .ok (.iload_n 1, 1) := by decide +kernel
theorem dX6_add_2 : decode cX6_add 2 = .ok (.sipush 255, 3) := by decide +kernel
theorem dX6_add_5 : decode cX6_add 5 = .ok (.iand, 1) := by decide +kernel
theorem dX6_add_6 : decode cX6_add 6 = .ok (.ixor, 1) := by decide +kernel
theorem dX6_add_7 : decode cX6_add 7 = .ok (.istore_n 2, 1) := by decide +kernel
theorem dX6_add_8 : decode cX6_add 8 = .ok (.iconst 0, 1) := by decide +kernel
theorem dX6_add_9 : decode cX6_add 9 = .ok (.istore_n 3, 1) := by decide +kernel
theorem dX6_add_10 : decode cX6_add 10 = .ok (.iload_n 3, 1) := by decide +kernel
theorem dX6_add_11 : decode cX6_add 11 = .ok (.bipush 8, 2) := by decide +kernel
theorem dX6_add_13 : decode cX6_add 13 = .ok (.if_icmp .ge 29, 3) := by decide +kernel
theorem dX6_add_16 : decode cX6_add 16 = .ok (.iload_n 2, 1) := by decide +kernel
theorem dX6_add_17 : decode cX6_add 17 = .ok (.iconst 1, 1) := by decide +kernel
theorem dX6_add_18 : decode cX6_add 18 = .ok (.iand, 1) := by decide +kernel
theorem dX6_add_19 : decode cX6_add 19 = .ok (.iconst 1, 1) := by decide +kernel
theorem dX6_add_20 : decode cX6_add 20 = .ok (.if_icmp .ne 12, 3) := by decide +kernel
theorem dX6_add_23 : decode cX6_add 23 = .ok (.iload_n 2, 1) := by decide +kernel
theorem dX6_add_24 : decode cX6_add 24 = .ok (.iconst 1, 1) := by decide +kernel
theorem dX6_add_25 : decode cX6_add 25 = .ok (.iushr, 1) := by decide +kernel
theorem dX6_add_26 : decode cX6_add 26 = .ok (.ldc 74, 2) := by decide +kernel
theorem dX6_add_28 : decode cX6_add 28 = .ok (.ixor, 1) := by decide +kernel
theorem dX6_add_29 : decode cX6_add 29 = .ok (.goto 6, 3) := by decide +kernel
theorem dX6_add_32 : decode cX6_add 32 = .ok (.iload_n 2, 1) := by decide +kernel
theorem dX6_add_33 : decode cX6_add 33 = .ok (.iconst 1, 1) := by decide +kernel
theorem dX6_add_34 : decode cX6_add 34 = .ok (.iushr, 1) := by decide +kernel
theorem dX6_add_35 : decode cX6_add 35 = .ok (.istore_n 2, 1) := by decide +kernel
theorem dX6_add_36 : decode cX6_add 36 = .ok (.iinc 3 1, 3) := by decide +kernel
theorem dX6_add_39 : decode cX6_add 39 = .ok (.goto (-29), 3) := by decide +kernel
theorem dX6_add_42 : decode cX6_add 42 = .ok (.iload_n 2, 1) := by decide +kernel
theorem dX6_add_43 : decode cX6_add 43 = .ok (.ireturn, 1) := by decide +kernel
theorem dX6_headSum_0 : decode cX6_headSum 0 = .ok (.iconst (-1), 1) := by decide +kernel
theorem dX6_headSum_1 : decode cX6_headSum 1 = .ok (.istore_n 2, 1) := by decide +kernel
theorem dX6_headSum_2 : decode cX6_headSum 2 = .ok (.iconst 0, 1) := by decide +kernel
theorem dX6_headSum_3 : decode cX6_headSum 3 = .ok (.istore_n 3, 1) := by decide +kernel
theorem dX6_headSum_4 : decode cX6_headSum 4 = .ok (.iload_n 3, 1) := by decide +kernel
theorem dX6_headSum_5 : decode cX6_headSum 5 = .ok (.bipush 13, 2) := by decide +kernel
theorem dX6_headSum_7 : decode cX6_headSum 7 = .ok (.if_icmp .ge 19, 3) := by decide +kernel
theorem dX6_headSum_10 : decode cX6_headSum 10 = .ok (.iload_n 2, 1) := by decide +kernel
theorem dX6_headSum_11 : decode cX6_headSum 11 = .ok (.aload_n 0, 1) := by decide +kernel
theorem dX6_headSum_12 : decode cX6_headSum 12 = .ok (.iload_n 1, 1) := by decide +kernel
theorem dX6_headSum_13 : decode cX6_headSum 13 = .ok (.iload_n 3, 1) := by decide +kernel
theorem dX6_headSum_14 : decode cX6_headSum 14 = .ok (.iadd, 1) := by decide +kernel
theorem dX6_headSum_15 : decode cX6_headSum 15 = .ok (.baload, 1) := by decide +kernel
theorem dX6_headSum_16 : decode cX6_headSum 16 = .ok (.invokestatic 75, 3) := by decide +kernel
theorem dX6_headSum_19 : decode cX6_headSum 19 = .ok (.istore_n 2, 1) := by decide +kernel
theorem dX6_headSum_20 : decode cX6_headSum 20 = .ok (.iinc 3 1, 3) := by decide +kernel
theorem dX6_headSum_23 : decode cX6_headSum 23 = .ok (.goto (-19), 3) := by decide +kernel
theorem dX6_headSum_26 : decode cX6_headSum 26 = .ok (.iload_n 2, 1) := by decide +kernel
theorem dX6_headSum_27 : decode cX6_headSum 27 = .ok (.iconst (-1), 1) := by decide +kernel
theorem dX6_headSum_28 : decode cX6_headSum 28 = .ok (.ixor, 1) := by decide +kernel
theorem dX6_headSum_29 : decode cX6_headSum 29 = .ok (.ireturn, 1) := by decide +kernel
theorem dX6_set_0 : decode cX6_set 0 = .ok (.iconst 0, 1) := by decide +kernel
theorem dX6_set_1 : decode cX6_set 1 = .ok (.istore_n 3, 1) := by decide +kernel
theorem dX6_set_2 : decode cX6_set 2 = .ok (.iload_n 3, 1) := by decide +kernel
theorem dX6_set_3 : decode cX6_set 3 = .ok (.iconst 4, 1) := by decide +kernel
theorem dX6_set_4 : decode cX6_set 4 = .ok (.if_icmp .ge 27, 3) := by decide +kernel
theorem dX6_set_7 : decode cX6_set 7 = .ok (.aload_n 0, 1) := by decide +kernel
theorem dX6_set_8 : decode cX6_set 8 = .ok (.getfield 65, 3) := by decide +kernel
theorem dX6_set_11 : decode cX6_set 11 = .ok (.iload_n 1, 1) := by decide +kernel
theorem dX6_set_12 : decode cX6_set 12 = .ok (.iload_n 3, 1) := by decide +kernel
theorem dX6_set_13 : decode cX6_set 13 = .ok (.iadd, 1) := by decide +kernel
theorem dX6_set_14 : decode cX6_set 14 = .ok (.iload_n 2, 1) := by decide +kernel
theorem dX6_set_15 : decode cX6_set 15 = .ok (.bipush 24, 2) := by decide +kernel
theorem dX6_set_17 : decode cX6_set 17 = .ok (.bipush 8, 2) := by decide +kernel
theorem dX6_set_19 : decode cX6_set 19 = .ok (.iload_n 3, 1) := by decide +kernel
theorem dX6_set_20 : decode cX6_set 20 = .ok (.imul, 1) := by decide +kernel
theorem dX6_set_21 : decode cX6_set 21 = .ok (.isub, 1) := by decide +kernel
theorem dX6_set_22 : decode cX6_set 22 = .ok (.ishr, 1) := by decide +kernel
theorem dX6_set_23 : decode cX6_set 23 = .ok (.i2b, 1) := by decide +kernel
theorem dX6_set_24 : decode cX6_set 24 = .ok (.bastore, 1) := by decide +kernel
theorem dX6_set_25 : decode cX6_set 25 = .ok (.iinc 3 1, 3) := by decide +kernel
theorem dX6_set_28 : decode cX6_set 28 = .ok (.goto (-26), 3) := by decide +kernel
theorem dX6_set_31 : decode cX6_set 31 = .ok (.return_, 1) := by decide +kernel
theorem dX6_clear_0 : decode cX6_clear 0 = .ok (.iconst 0, 1) := by decide +kernel
theorem dX6_clear_1 : decode cX6_clear 1 = .ok (.istore_n 1, 1) := by decide +kernel
theorem dX6_clear_2 : decode cX6_clear 2 = .ok (.iload_n 1, 1) := by decide +kernel
theorem dX6_clear_3 : decode cX6_clear 3 = .ok (.bipush 64, 2) := by decide +kernel
theorem dX6_clear_5 : decode cX6_clear 5 = .ok (.if_icmp .ge 16, 3) := by decide +kernel
theorem dX6_clear_8 : decode cX6_clear 8 = .ok (.aload_n 0, 1) := by decide +kernel
theorem dX6_clear_9 : decode cX6_clear 9 = .ok (.getfield 65, 3) := by decide +kernel
theorem dX6_clear_12 : decode cX6_clear 12 = .ok (.iload_n 1, 1) := by decide +kernel
theorem dX6_clear_13 : decode cX6_clear 13 = .ok (.iconst 0, 1) := by decide +kernel
theorem dX6_clear_14 : decode cX6_clear 14 = .ok (.bastore, 1) := by decide +kernel
theorem dX6_clear_15 : decode cX6_clear 15 = .ok (.iinc 1 1, 3) := by decide +kernel
theorem dX6_clear_18 : decode cX6_clear 18 = .ok (.goto (-16), 3) := by decide +kernel
theorem dX6_clear_21 : decode cX6_clear 21 = .ok (.return_, 1) := by decide +kernel
theorem dX6_makeHead_0 : decode cX6_makeHead 0 = .ok (.aload_n 0, 1) := by decide +kernel
theorem dX6_makeHead_1 : decode cX6_makeHead 1 = .ok (.invokevirtual 79, 3) := by decide +kernel
theorem dX6_makeHead_4 : decode cX6_makeHead 4 = .ok (.aload_n 0, 1) := by decide +kernel
theorem dX6_makeHead_5 : decode cX6_makeHead 5 = .ok (.iconst 0, 1) := by decide +kernel
theorem dX6_makeHead_6 : decode cX6_makeHead 6 = .ok (.aload_n 0, 1) := by decide +kernel
theorem dX6_makeHead_7 : decode cX6_makeHead 7 = .ok (.getfield 38, 3) := by decide +kernel
theorem dX6_makeHead_10 : decode cX6_makeHead 10 = .ok (.invokevirtual 82, 3) := by decide +kernel
theorem dX6_makeHead_13 : decode cX6_makeHead 13 = .ok (.aload_n 0, 1) := by decide +kernel
theorem dX6_makeHead_14 : decode cX6_makeHead 14 = .ok (.iconst 4, 1) := by decide +kernel
theorem dX6_makeHead_15 : decode cX6_makeHead 15 = .ok (.aload_n 0, 1) := by decide +kernel
theorem dX6_makeHead_16 : decode cX6_makeHead 16 = .ok (.getfield 41, 3) := by decide +kernel
theorem dX6_makeHead_19 : decode cX6_makeHead 19 = .ok (.invokevirtual 82, 3) := by decide +kernel
theorem dX6_makeHead_22 : decode cX6_makeHead 22 = .ok (.aload_n 0, 1) := by decide +kernel
theorem dX6_makeHead_23 : decode cX6_makeHead 23 = .ok (.bipush 8, 2) := by decide +kernel
theorem dX6_makeHead_25 : decode cX6_makeHead 25 = .ok (.aload_n 0, 1) := by decide +kernel
theorem dX6_makeHead_26 : decode cX6_makeHead 26 = .ok (.getfield 44, 3) := by decide +kernel
theorem dX6_makeHead_29 : decode cX6_makeHead 29 = .ok (.invokevirtual 82, 3) := by decide +kernel
theorem dX6_makeHead_32 : decode cX6_makeHead 32 = .ok (.aload_n 0, 1) := by decide +kernel
theorem dX6_makeHead_33 : decode cX6_makeHead 33 = .ok (.getfield 65, 3) := by decide +kernel
theorem dX6_makeHead_36 : decode cX6_makeHead 36 = .ok (.bipush 12, 2) := by decide +kernel
theorem dX6_makeHead_38 : decode cX6_makeHead 38 = .ok (.aload_n 0, 1) := by decide +kernel
theorem dX6_makeHead_39 : decode cX6_makeHead 39 = .ok (.getfield 47, 3) := by decide +kernel
theorem dX6_makeHead_42 : decode cX6_makeHead 42 = .ok (.i2b, 1) := by decide +kernel
theorem dX6_makeHead_43 : decode cX6_makeHead 43 = .ok (.bastore, 1) := by decide +kernel
theorem dX6_makeHead_44 : decode cX6_makeHead 44 = .ok (.aload_n 0, 1) := by decide +kernel
theorem dX6_makeHead_45 : decode cX6_makeHead 45 = .ok (.bipush 13, 2) := by decide +kernel
theorem dX6_makeHead_47 : decode cX6_makeHead 47 = .ok (.aload_n 0, 1) := by decide +kernel
theorem dX6_makeHead_48 : decode cX6_makeHead 48 = .ok (.getfield 65, 3) := by decide +kernel
theorem dX6_makeHead_51 : decode cX6_makeHead 51 = .ok (.iconst 0, 1) := by decide +kernel
theorem dX6_makeHead_52 : decode cX6_makeHead 52 = .ok (.invokestatic 86, 3) := by decide +kernel
theorem dX6_makeHead_55 : decode cX6_makeHead 55 = .ok (.invokevirtual 82, 3) := by decide +kernel
theorem dX6_makeHead_58 : decode cX6_makeHead 58 = .ok (.return_, 1) := by decide +kernel
theorem dX6_write_0 : decode cX6_write 0 = .ok (.bipush 64, 2) := by decide +kernel
theorem dX6_write_2 : decode cX6_write 2 = .ok (.istore_n 2, 1) := by decide +kernel
theorem dX6_write_3 : decode cX6_write 3 = .ok (.aload_n 0, 1) := by decide +kernel
theorem dX6_write_4 : decode cX6_write 4 = .ok (.getfield 21, 3) := by decide +kernel
theorem dX6_write_7 : decode cX6_write 7 = .ok (.ifCond .ne 8, 3) := by decide +kernel
theorem dX6_write_10 : decode cX6_write 10 = .ok (.aload_n 0, 1) := by decide +kernel
theorem dX6_write_11 : decode cX6_write 11 = .ok (.getfield 90, 3) := by decide +kernel
theorem dX6_write_14 : decode cX6_write 14 = .ok (.istore_n 2, 1) := by decide +kernel
theorem dX6_write_15 : decode cX6_write 15 = .ok (.iconst 0, 1) := by decide +kernel
theorem dX6_write_16 : decode cX6_write 16 = .ok (.istore_n 3, 1) := by decide +kernel
theorem dX6_write_17 : decode cX6_write 17 = .ok (.iload_n 3, 1) := by decide +kernel
theorem dX6_write_18 : decode cX6_write 18 = .ok (.iload_n 2, 1) := by decide +kernel
theorem dX6_write_19 : decode cX6_write 19 = .ok (.if_icmp .ge 26, 3) := by decide +kernel
theorem dX6_write_22 : decode cX6_write 22 = .ok (.aload_n 0, 1) := by decide +kernel
theorem dX6_write_23 : decode cX6_write 23 = .ok (.getfield 7, 3) := by decide +kernel
theorem dX6_write_26 : decode cX6_write 26 = .ok (.bipush 64, 2) := by decide +kernel
theorem dX6_write_28 : decode cX6_write 28 = .ok (.iload_n 1, 1) := by decide +kernel
theorem dX6_write_29 : decode cX6_write 29 = .ok (.imul, 1) := by decide +kernel
theorem dX6_write_30 : decode cX6_write 30 = .ok (.iload_n 3, 1) := by decide +kernel
theorem dX6_write_31 : decode cX6_write 31 = .ok (.iadd, 1) := by decide +kernel
theorem dX6_write_32 : decode cX6_write 32 = .ok (.aload_n 0, 1) := by decide +kernel
theorem dX6_write_33 : decode cX6_write 33 = .ok (.getfield 65, 3) := by decide +kernel
theorem dX6_write_36 : decode cX6_write 36 = .ok (.iload_n 3, 1) := by decide +kernel
theorem dX6_write_37 : decode cX6_write 37 = .ok (.baload, 1) := by decide +kernel
theorem dX6_write_38 : decode cX6_write 38 = .ok (.bastore, 1) := by decide +kernel
theorem dX6_write_39 : decode cX6_write 39 = .ok (.iinc 3 1, 3) := by decide +kernel
theorem dX6_write_42 : decode cX6_write 42 = .ok (.goto (-25), 3) := by decide +kernel
theorem dX6_write_45 : decode cX6_write 45 = .ok (.iload_n 2, 1) := by decide +kernel
theorem dX6_write_46 : decode cX6_write 46 = .ok (.bipush 64, 2) := by decide +kernel
theorem dX6_write_48 : decode cX6_write 48 = .ok (.if_icmp .ge 27, 3) := by decide +kernel
theorem dX6_write_51 : decode cX6_write 51 = .ok (.aload_n 0, 1) := by decide +kernel
theorem dX6_write_52 : decode cX6_write 52 = .ok (.getfield 13, 3) := by decide +kernel
theorem dX6_write_55 : decode cX6_write 55 = .ok (.iload_n 1, 1) := by decide +kernel
theorem dX6_write_56 : decode cX6_write 56 = .ok (.dup2, 1) := by decide +kernel
theorem dX6_write_57 : decode cX6_write 57 = .ok (.baload, 1) := by decide +kernel
theorem dX6_write_58 : decode cX6_write 58 = .ok (.iload_n 2, 1) := by decide +kernel
theorem dX6_write_59 : decode cX6_write 59 = .ok (.ifCond .le 7, 3) := by decide +kernel
theorem dX6_write_62 : decode cX6_write 62 = .ok (.iconst 1, 1) := by decide +kernel
theorem dX6_write_63 : decode cX6_write 63 = .ok (.goto 4, 3) := by decide +kernel
theorem dX6_write_66 : decode cX6_write 66 = .ok (.iconst 0, 1) := by decide +kernel
theorem dX6_write_67 : decode cX6_write 67 = .ok (.ior, 1) := by decide +kernel
theorem dX6_write_68 : decode cX6_write 68 = .ok (.bastore, 1) := by decide +kernel
theorem dX6_write_69 : decode cX6_write 69 = .ok (.aload_n 0, 1) := by decide +kernel
theorem dX6_write_70 : decode cX6_write 70 = .ok (.invokevirtual 93, 3) := by decide +kernel
theorem dX6_write_73 : decode cX6_write 73 = .ok (.iconst 0, 1) := by decide +kernel
theorem dX6_write_74 : decode cX6_write 74 = .ok (.ireturn, 1) := by decide +kernel
theorem dX6_write_75 : decode cX6_write 75 = .ok (.aload_n 0, 1) := by decide +kernel
theorem dX6_write_76 : decode cX6_write 76 = .ok (.getfield 13, 3) := by decide +kernel
theorem dX6_write_79 : decode cX6_write 79 = .ok (.iload_n 1, 1) := by decide +kernel
theorem dX6_write_80 : decode cX6_write 80 = .ok (.iconst 0, 1) := by decide +kernel
theorem dX6_write_81 : decode cX6_write 81 = .ok (.bastore, 1) := by decide +kernel
theorem dX6_write_82 : decode cX6_write 82 = .ok (.aload_n 0, 1) := by decide +kernel
theorem dX6_write_83 : decode cX6_write 83 = .ok (.dup, 1) := by decide +kernel
theorem dX6_write_84 : decode cX6_write 84 = .ok (.getfield 96, 3) := by decide +kernel
theorem dX6_write_87 : decode cX6_write 87 = .ok (.iconst 1, 1) := by decide +kernel
theorem dX6_write_88 : decode cX6_write 88 = .ok (.iadd, 1) := by decide +kernel
theorem dX6_write_89 : decode cX6_write 89 = .ok (.putfield 96, 3) := by decide +kernel
theorem dX6_write_92 : decode cX6_write 92 = .ok (.aload_n 0, 1) := by decide +kernel
theorem dX6_write_93 : decode cX6_write 93 = .ok (.dup, 1) := by decide +kernel
theorem dX6_write_94 : decode cX6_write 94 = .ok (.getfield 21, 3) := by decide +kernel
theorem dX6_write_97 : decode cX6_write 97 = .ok (.aload_n 0, 1) := by decide +kernel
theorem dX6_write_98 : decode cX6_write 98 = .ok (.getfield 21, 3) := by decide +kernel
theorem dX6_write_101 : decode cX6_write 101 = .ok (.ifCond .le 7, 3) := by decide +kernel
theorem dX6_write_104 : decode cX6_write 104 = .ok (.iconst 1, 1) := by decide +kernel
theorem dX6_write_105 : decode cX6_write 105 = .ok (.goto 4, 3) := by decide +kernel
theorem dX6_write_108 : decode cX6_write 108 = .ok (.iconst 0, 1) := by decide +kernel
theorem dX6_write_109 : decode cX6_write 109 = .ok (.isub, 1) := by decide +kernel
theorem dX6_write_110 : decode cX6_write 110 = .ok (.putfield 21, 3) := by decide +kernel
theorem dX6_write_113 : decode cX6_write 113 = .ok (.iconst 1, 1) := by decide +kernel
theorem dX6_write_114 : decode cX6_write 114 = .ok (.ireturn, 1) := by decide +kernel
theorem dX6_goOff_0 : decode cX6_goOff 0 = .ok (.aload_n 0, 1) := by decide +kernel
theorem dX6_goOff_1 : decode cX6_goOff 1 = .ok (.iconst 0, 1) := by decide +kernel
theorem dX6_goOff_2 : decode cX6_goOff 2 = .ok (.putfield 17, 3) := by decide +kernel
theorem dX6_goOff_5 : decode cX6_goOff 5 = .ok (.aload_n 0, 1) := by decide +kernel
theorem dX6_goOff_6 : decode cX6_goOff 6 = .ok (.iconst (-1), 1) := by decide +kernel
theorem dX6_goOff_7 : decode cX6_goOff 7 = .ok (.putfield 21, 3) := by decide +kernel
theorem dX6_goOff_10 : decode cX6_goOff 10 = .ok (.aload_n 0, 1) := by decide +kernel
theorem dX6_goOff_11 : decode cX6_goOff 11 = .ok (.iconst 0, 1) := by decide +kernel
theorem dX6_goOff_12 : decode cX6_goOff 12 = .ok (.putfield 99, 3) := by decide +kernel
theorem dX6_goOff_15 : decode cX6_goOff 15 = .ok (.aload_n 0, 1) := by decide +kernel
theorem dX6_goOff_16 : decode cX6_goOff 16 = .ok (.iconst 0, 1) := by decide +kernel
theorem dX6_goOff_17 : decode cX6_goOff 17 = .ok (.putfield 102, 3) := by decide +kernel
theorem dX6_goOff_20 : decode cX6_goOff 20 = .ok (.aload_n 0, 1) := by decide +kernel
theorem dX6_goOff_21 : decode cX6_goOff 21 = .ok (.iconst 0, 1) := by decide +kernel
theorem dX6_goOff_22 : decode cX6_goOff 22 = .ok (.putfield 105, 3) := by decide +kernel
theorem dX6_goOff_25 : decode cX6_goOff 25 = .ok (.return_, 1) := by decide +kernel
theorem dX6_used_0 : decode cX6_used 0 = .ok (.aload_n 0, 1) := by decide +kernel
theorem dX6_used_1 : decode cX6_used 1 = .ok (.getfield 53, 3) := by decide +kernel
theorem dX6_used_4 : decode cX6_used 4 = .ok (.aload_n 0, 1) := by decide +kernel
theorem dX6_used_5 : decode cX6_used 5 = .ok (.getfield 41, 3) := by decide +kernel
theorem dX6_used_8 : decode cX6_used 8 = .ok (.isub, 1) := by decide +kernel
theorem dX6_used_9 : decode cX6_used 9 = .ok (.ireturn, 1) := by decide +kernel
theorem dX6_delay_0 : decode cX6_delay 0 = .ok (.aload_n 0, 1) := by decide +kernel
theorem dX6_delay_1 : decode cX6_delay 1 = .ok (.getfield 17, 3) := by decide +kernel
theorem dX6_delay_4 : decode cX6_delay 4 = .ok (.ifCond .eq 15, 3) := by decide +kernel
theorem dX6_delay_7 : decode cX6_delay 7 = .ok (.iload_n 1, 1) := by decide +kernel
theorem dX6_delay_8 : decode cX6_delay 8 = .ok (.iconst 1, 1) := by decide +kernel
theorem dX6_delay_9 : decode cX6_delay 9 = .ok (.if_icmp .lt 10, 3) := by decide +kernel
theorem dX6_delay_12 : decode cX6_delay 12 = .ok (.iload_n 1, 1) := by decide +kernel
theorem dX6_delay_13 : decode cX6_delay 13 = .ok (.sipush 1000, 3) := by decide +kernel
theorem dX6_delay_16 : decode cX6_delay 16 = .ok (.if_icmp .le 5, 3) := by decide +kernel
theorem dX6_delay_19 : decode cX6_delay 19 = .ok (.iconst 0, 1) := by decide +kernel
theorem dX6_delay_20 : decode cX6_delay 20 = .ok (.ireturn, 1) := by decide +kernel
theorem dX6_delay_21 : decode cX6_delay 21 = .ok (.aload_n 0, 1) := by decide +kernel
theorem dX6_delay_22 : decode cX6_delay 22 = .ok (.iload_n 1, 1) := by decide +kernel
theorem dX6_delay_23 : decode cX6_delay 23 = .ok (.putfield 25, 3) := by decide +kernel
theorem dX6_delay_26 : decode cX6_delay 26 = .ok (.iconst 1, 1) := by decide +kernel
theorem dX6_delay_27 : decode cX6_delay 27 = .ok (.ireturn, 1) := by decide +kernel
theorem dX6_feed_0 : decode cX6_feed 0 = .ok (.iload_n 1, 1) := by decide +kernel
theorem dX6_feed_1 : decode cX6_feed 1 = .ok (.ifCond .lt 20, 3) := by decide +kernel
theorem dX6_feed_4 : decode cX6_feed 4 = .ok (.iload_n 1, 1) := by decide +kernel
theorem dX6_feed_5 : decode cX6_feed 5 = .ok (.sipush 255, 3) := by decide +kernel
theorem dX6_feed_8 : decode cX6_feed 8 = .ok (.if_icmp .gt 13, 3) := by decide +kernel
theorem dX6_feed_11 : decode cX6_feed 11 = .ok (.aload_n 0, 1) := by decide +kernel
theorem dX6_feed_12 : decode cX6_feed 12 = .ok (.getfield 108, 3) := by decide +kernel
theorem dX6_feed_15 : decode cX6_feed 15 = .ok (.sipush 200, 3) := by decide +kernel
theorem dX6_feed_18 : decode cX6_feed 18 = .ok (.if_icmp .ne 5, 3) := by decide +kernel
theorem dX6_feed_21 : decode cX6_feed 21 = .ok (.iconst 0, 1) := by decide +kernel
theorem dX6_feed_22 : decode cX6_feed 22 = .ok (.ireturn, 1) := by decide +kernel
theorem dX6_feed_23 : decode cX6_feed 23 = .ok (.aload_n 0, 1) := by decide +kernel
theorem dX6_feed_24 : decode cX6_feed 24 = .ok (.getfield 28, 3) := by decide +kernel
theorem dX6_feed_27 : decode cX6_feed 27 = .ok (.aload_n 0, 1) := by decide +kernel
theorem dX6_feed_28 : decode cX6_feed 28 = .ok (.getfield 108, 3) := by decide +kernel
theorem dX6_feed_31 : decode cX6_feed 31 = .ok (.iload_n 1, 1) := by decide +kernel
theorem dX6_feed_32 : decode cX6_feed 32 = .ok (.i2b, 1) := by decide +kernel
theorem dX6_feed_33 : decode cX6_feed 33 = .ok (.bastore, 1) := by decide +kernel
theorem dX6_feed_34 : decode cX6_feed 34 = .ok (.aload_n 0, 1) := by decide +kernel
theorem dX6_feed_35 : decode cX6_feed 35 = .ok (.dup, 1) := by decide +kernel
theorem dX6_feed_36 : decode cX6_feed 36 = .ok (.getfield 108, 3) := by decide +kernel
theorem dX6_feed_39 : decode cX6_feed 39 = .ok (.iconst 1, 1) := by decide +kernel
theorem dX6_feed_40 : decode cX6_feed 40 = .ok (.iadd, 1) := by decide +kernel
theorem dX6_feed_41 : decode cX6_feed 41 = .ok (.putfield 108, 3) := by decide +kernel
theorem dX6_feed_44 : decode cX6_feed 44 = .ok (.iconst 1, 1) := by decide +kernel
theorem dX6_feed_45 : decode cX6_feed 45 = .ok (.ireturn, 1) := by decide +kernel
theorem dX6_append_0 : decode cX6_append 0 = .ok (.aload_n 0, 1) := by decide +kernel
theorem dX6_append_1 : decode cX6_append 1 = .ok (.getfield 17, 3) := by decide +kernel
theorem dX6_append_4 : decode cX6_append 4 = .ok (.ifCond .ne 6, 3) := by decide +kernel
theorem dX6_append_7 : decode cX6_append 7 = .ok (.bipush (-2), 2) := by decide +kernel
theorem dX6_append_9 : decode cX6_append 9 = .ok (.ireturn, 1) := by decide +kernel
theorem dX6_append_10 : decode cX6_append 10 = .ok (.aload_n 0, 1) := by decide +kernel
theorem dX6_append_11 : decode cX6_append 11 = .ok (.getfield 108, 3) := by decide +kernel
theorem dX6_append_14 : decode cX6_append 14 = .ok (.ifCond .eq 33, 3) := by decide +kernel
theorem dX6_append_17 : decode cX6_append 17 = .ok (.aload_n 0, 1) := by decide +kernel
theorem dX6_append_18 : decode cX6_append 18 = .ok (.getfield 99, 3) := by decide +kernel
theorem dX6_append_21 : decode cX6_append 21 = .ok (.bipush 6, 2) := by decide +kernel
theorem dX6_append_23 : decode cX6_append 23 = .ok (.iadd, 1) := by decide +kernel
theorem dX6_append_24 : decode cX6_append 24 = .ok (.aload_n 0, 1) := by decide +kernel
theorem dX6_append_25 : decode cX6_append 25 = .ok (.getfield 108, 3) := by decide +kernel
theorem dX6_append_28 : decode cX6_append 28 = .ok (.iadd, 1) := by decide +kernel
theorem dX6_append_29 : decode cX6_append 29 = .ok (.bipush 48, 2) := by decide +kernel
theorem dX6_append_31 : decode cX6_append 31 = .ok (.iadd, 1) := by decide +kernel
theorem dX6_append_32 : decode cX6_append 32 = .ok (.iconst 1, 1) := by decide +kernel
theorem dX6_append_33 : decode cX6_append 33 = .ok (.isub, 1) := by decide +kernel
theorem dX6_append_34 : decode cX6_append 34 = .ok (.bipush 48, 2) := by decide +kernel
theorem dX6_append_36 : decode cX6_append 36 = .ok (.idiv, 1) := by decide +kernel
theorem dX6_append_37 : decode cX6_append 37 = .ok (.bipush 62, 2) := by decide +kernel
theorem dX6_append_39 : decode cX6_append 39 = .ok (.aload_n 0, 1) := by decide +kernel
theorem dX6_append_40 : decode cX6_append 40 = .ok (.invokevirtual 111, 3) := by decide +kernel
theorem dX6_append_43 : decode cX6_append 43 = .ok (.isub, 1) := by decide +kernel
theorem dX6_append_44 : decode cX6_append 44 = .ok (.if_icmp .le 5, 3) := by decide +kernel
theorem dX6_flushAll_0 : decode cX6_flushAll 0 = .ok (.iconst 0, 1) := by decide +kernel
theorem dX6_flushAll_1 : decode cX6_flushAll 1 = .ok (.istore_n 1, 1) := by decide +kernel
theorem dX6_flushAll_2 : decode cX6_flushAll 2 = .ok (.aload_n 0, 1) := by decide +kernel
theorem dX6_flushAll_3 : decode cX6_flushAll 3 = .ok (.getfield 50, 3) := by decide +kernel
theorem dX6_flushAll_6 : decode cX6_flushAll 6 = .ok (.istore_n 2, 1) := by decide +kernel
theorem dX6_flushAll_7 : decode cX6_flushAll 7 = .ok (.iconst 0, 1) := by decide +kernel
theorem dX6_flushAll_8 : decode cX6_flushAll 8 = .ok (.istore_n 3, 1) := by decide +kernel
theorem dX6_flushAll_9 : decode cX6_flushAll 9 = .ok (.iload_n 3, 1) := by decide +kernel
theorem dX6_flushAll_10 : decode cX6_flushAll 10 = .ok (.aload_n 0, 1) := by decide +kernel
theorem dX6_flushAll_11 : decode cX6_flushAll 11 = .ok (.getfield 99, 3) := by decide +kernel
theorem dX6_flushAll_14 : decode cX6_flushAll 14 = .ok (.if_icmp .ge 228, 3) := by decide +kernel
theorem dX6_flushAll_17 : decode cX6_flushAll 17 = .ok (.aload_n 0, 1) := by decide +kernel
theorem dX6_flushAll_18 : decode cX6_flushAll 18 = .ok (.getfield 99, 3) := by decide +kernel
theorem dX6_flushAll_21 : decode cX6_flushAll 21 = .ok (.iload_n 3, 1) := by decide +kernel
theorem dX6_flushAll_22 : decode cX6_flushAll 22 = .ok (.isub, 1) := by decide +kernel
theorem dX6_flushAll_23 : decode cX6_flushAll 23 = .ok (.bipush 48, 2) := by decide +kernel
theorem dX6_flushAll_25 : decode cX6_flushAll 25 = .ok (.if_icmp .ge 12, 3) := by decide +kernel
theorem dX6_flushAll_28 : decode cX6_flushAll 28 = .ok (.aload_n 0, 1) := by decide +kernel
theorem dX6_flushAll_29 : decode cX6_flushAll 29 = .ok (.getfield 99, 3) := by decide +kernel
theorem dX6_flushAll_32 : decode cX6_flushAll 32 = .ok (.iload_n 3, 1) := by decide +kernel
theorem dX6_flushAll_33 : decode cX6_flushAll 33 = .ok (.isub, 1) := by decide +kernel
theorem dX6_flushAll_34 : decode cX6_flushAll 34 = .ok (.goto 5, 3) := by decide +kernel
theorem dX6_flushAll_37 : decode cX6_flushAll 37 = .ok (.bipush 48, 2) := by decide +kernel
theorem dX6_flushAll_39 : decode cX6_flushAll 39 = .ok (.istore 4, 2) := by decide +kernel
theorem dX6_flushAll_41 : decode cX6_flushAll 41 = .ok (.aload_n 0, 1) := by decide +kernel
theorem dX6_flushAll_42 : decode cX6_flushAll 42 = .ok (.invokevirtual 79, 3) := by decide +kernel
theorem dX6_flushAll_45 : decode cX6_flushAll 45 = .ok (.aload_n 0, 1) := by decide +kernel
theorem dX6_flushAll_46 : decode cX6_flushAll 46 = .ok (.iconst 0, 1) := by decide +kernel
theorem dX6_flushAll_47 : decode cX6_flushAll 47 = .ok (.aload_n 0, 1) := by decide +kernel
theorem dX6_flushAll_48 : decode cX6_flushAll 48 = .ok (.getfield 53, 3) := by decide +kernel
theorem dX6_flushAll_51 : decode cX6_flushAll 51 = .ok (.iload_n 1, 1) := by decide +kernel
theorem dX6_flushAll_52 : decode cX6_flushAll 52 = .ok (.iadd, 1) := by decide +kernel
theorem dX6_flushAll_53 : decode cX6_flushAll 53 = .ok (.invokevirtual 82, 3) := by decide +kernel
theorem dX6_flushAll_56 : decode cX6_flushAll 56 = .ok (.aload_n 0, 1) := by decide +kernel
theorem dX6_flushAll_57 : decode cX6_flushAll 57 = .ok (.getfield 65, 3) := by decide +kernel
theorem dX6_flushAll_60 : decode cX6_flushAll 60 = .ok (.iconst 4, 1) := by decide +kernel
theorem dX6_flushAll_61 : decode cX6_flushAll 61 = .ok (.iload 4, 2) := by decide +kernel
theorem dX6_flushAll_63 : decode cX6_flushAll 63 = .ok (.i2b, 1) := by decide +kernel
theorem dX6_flushAll_64 : decode cX6_flushAll 64 = .ok (.bastore, 1) := by decide +kernel
theorem dX6_flushAll_65 : decode cX6_flushAll 65 = .ok (.aload_n 0, 1) := by decide +kernel
theorem dX6_flushAll_66 : decode cX6_flushAll 66 = .ok (.getfield 65, 3) := by decide +kernel
theorem dX6_flushAll_69 : decode cX6_flushAll 69 = .ok (.iconst 5, 1) := by decide +kernel
theorem dX6_flushAll_70 : decode cX6_flushAll 70 = .ok (.iconst (-1), 1) := by decide +kernel
theorem dX6_flushAll_71 : decode cX6_flushAll 71 = .ok (.bastore, 1) := by decide +kernel
theorem dX6_flushAll_72 : decode cX6_flushAll 72 = .ok (.aload_n 0, 1) := by decide +kernel
theorem dX6_flushAll_73 : decode cX6_flushAll 73 = .ok (.getfield 102, 3) := by decide +kernel
theorem dX6_flushAll_76 : decode cX6_flushAll 76 = .ok (.iconst 1, 1) := by decide +kernel
theorem dX6_flushAll_77 : decode cX6_flushAll 77 = .ok (.isub, 1) := by decide +kernel
theorem dX6_flushAll_78 : decode cX6_flushAll 78 = .ok (.istore 5, 2) := by decide +kernel
theorem dX6_flushAll_80 : decode cX6_flushAll 80 = .ok (.iload 5, 2) := by decide +kernel
theorem dX6_flushAll_82 : decode cX6_flushAll 82 = .ok (.ifCond .lt 50, 3) := by decide +kernel
theorem dX6_flushAll_85 : decode cX6_flushAll 85 = .ok (.aload_n 0, 1) := by decide +kernel
theorem dX6_flushAll_86 : decode cX6_flushAll 86 = .ok (.getfield 34, 3) := by decide +kernel
theorem dX6_flushAll_89 : decode cX6_flushAll 89 = .ok (.iload 5, 2) := by decide +kernel
theorem dX6_flushAll_91 : decode cX6_flushAll 91 = .ok (.iaload, 1) := by decide +kernel
theorem dX6_flushAll_92 : decode cX6_flushAll 92 = .ok (.iload_n 3, 1) := by decide +kernel
theorem dX6_flushAll_93 : decode cX6_flushAll 93 = .ok (.if_icmp .lt 33, 3) := by decide +kernel
theorem dX6_flushAll_96 : decode cX6_flushAll 96 = .ok (.aload_n 0, 1) := by decide +kernel
theorem dX6_flushAll_97 : decode cX6_flushAll 97 = .ok (.getfield 34, 3) := by decide +kernel
theorem dX6_flushAll_100 : decode cX6_flushAll 100 = .ok (.iload 5, 2) := by decide +kernel
theorem dX6_flushAll_102 : decode cX6_flushAll 102 = .ok (.iaload, 1) := by decide +kernel
theorem dX6_flushAll_103 : decode cX6_flushAll 103 = .ok (.iload_n 3, 1) := by decide +kernel
theorem dX6_flushAll_104 : decode cX6_flushAll 104 = .ok (.iload 4, 2) := by decide +kernel
theorem dX6_flushAll_106 : decode cX6_flushAll 106 = .ok (.iadd, 1) := by decide +kernel
theorem dX6_flushAll_107 : decode cX6_flushAll 107 = .ok (.if_icmp .ge 19, 3) := by decide +kernel
theorem dX6_flushAll_110 : decode cX6_flushAll 110 = .ok (.aload_n 0, 1) := by decide +kernel
theorem dX6_flushAll_111 : decode cX6_flushAll 111 = .ok (.getfield 65, 3) := by decide +kernel
theorem dX6_flushAll_114 : decode cX6_flushAll 114 = .ok (.iconst 5, 1) := by decide +kernel
theorem dX6_flushAll_115 : decode cX6_flushAll 115 = .ok (.aload_n 0, 1) := by decide +kernel
theorem dX6_flushAll_116 : decode cX6_flushAll 116 = .ok (.getfield 34, 3) := by decide +kernel
theorem dX6_flushAll_119 : decode cX6_flushAll 119 = .ok (.iload 5, 2) := by decide +kernel
theorem dX6_flushAll_121 : decode cX6_flushAll 121 = .ok (.iaload, 1) := by decide +kernel
theorem dX6_flushAll_122 : decode cX6_flushAll 122 = .ok (.iload_n 3, 1) := by decide +kernel
theorem dX6_flushAll_123 : decode cX6_flushAll 123 = .ok (.isub, 1) := by decide +kernel
theorem dX6_flushAll_124 : decode cX6_flushAll 124 = .ok (.i2b, 1) := by decide +kernel
theorem dX6_flushAll_125 : decode cX6_flushAll 125 = .ok (.bastore, 1) := by decide +kernel
theorem dX6_flushAll_126 : decode cX6_flushAll 126 = .ok (.iinc 5 (-1), 3) := by decide +kernel
theorem dX6_flushAll_129 : decode cX6_flushAll 129 = .ok (.goto (-49), 3) := by decide +kernel
theorem dX6_flushAll_132 : decode cX6_flushAll 132 = .ok (.iconst 0, 1) := by decide +kernel
theorem dX6_flushAll_133 : decode cX6_flushAll 133 = .ok (.istore 5, 2) := by decide +kernel
theorem dX6_flushAll_135 : decode cX6_flushAll 135 = .ok (.iload 5, 2) := by decide +kernel
theorem dX6_flushAll_137 : decode cX6_flushAll 137 = .ok (.iload 4, 2) := by decide +kernel
theorem dX6_flushAll_139 : decode cX6_flushAll 139 = .ok (.if_icmp .ge 28, 3) := by decide +kernel
theorem dX6_flushAll_142 : decode cX6_flushAll 142 = .ok (.aload_n 0, 1) := by decide +kernel
theorem dX6_flushAll_143 : decode cX6_flushAll 143 = .ok (.getfield 65, 3) := by decide +kernel
theorem dX6_flushAll_146 : decode cX6_flushAll 146 = .ok (.bipush 16, 2) := by decide +kernel
theorem dX6_flushAll_148 : decode cX6_flushAll 148 = .ok (.iload 5, 2) := by decide +kernel
theorem dX6_flushAll_150 : decode cX6_flushAll 150 = .ok (.iadd, 1) := by decide +kernel
theorem dX6_flushAll_151 : decode cX6_flushAll 151 = .ok (.aload_n 0, 1) := by decide +kernel
theorem dX6_flushAll_152 : decode cX6_flushAll 152 = .ok (.getfield 31, 3) := by decide +kernel
theorem dX6_flushAll_155 : decode cX6_flushAll 155 = .ok (.iload_n 3, 1) := by decide +kernel
theorem dX6_flushAll_156 : decode cX6_flushAll 156 = .ok (.iload 5, 2) := by decide +kernel
theorem dX6_flushAll_158 : decode cX6_flushAll 158 = .ok (.iadd, 1) := by decide +kernel
theorem dX6_flushAll_159 : decode cX6_flushAll 159 = .ok (.baload, 1) := by decide +kernel
theorem dX6_flushAll_160 : decode cX6_flushAll 160 = .ok (.bastore, 1) := by decide +kernel
theorem dX6_flushAll_161 : decode cX6_flushAll 161 = .ok (.iinc 5 1, 3) := by decide +kernel
theorem dX6_flushAll_164 : decode cX6_flushAll 164 = .ok (.goto (-29), 3) := by decide +kernel
theorem dX6_flushAll_167 : decode cX6_flushAll 167 = .ok (.aload_n 0, 1) := by decide +kernel
theorem dX6_flushAll_168 : decode cX6_flushAll 168 = .ok (.bipush 10, 2) := by decide +kernel
theorem dX6_flushAll_170 : decode cX6_flushAll 170 = .ok (.aload_n 0, 1) := by decide +kernel
theorem dX6_flushAll_171 : decode cX6_flushAll 171 = .ok (.getfield 38, 3) := by decide +kernel
theorem dX6_flushAll_174 : decode cX6_flushAll 174 = .ok (.invokevirtual 82, 3) := by decide +kernel
theorem dX6_flushAll_177 : decode cX6_flushAll 177 = .ok (.aload_n 0, 1) := by decide +kernel
theorem dX6_flushAll_178 : decode cX6_flushAll 178 = .ok (.bipush 6, 2) := by decide +kernel
theorem dX6_flushAll_180 : decode cX6_flushAll 180 = .ok (.aload_n 0, 1) := by decide +kernel
theorem dX6_flushAll_181 : decode cX6_flushAll 181 = .ok (.getfield 65, 3) := by decide +kernel
theorem dX6_flushAll_184 : decode cX6_flushAll 184 = .ok (.iconst 0, 1) := by decide +kernel
theorem dX6_flushAll_185 : decode cX6_flushAll 185 = .ok (.invokestatic 125, 3) := by decide +kernel
theorem dX6_flushAll_188 : decode cX6_flushAll 188 = .ok (.invokevirtual 82, 3) := by decide +kernel
theorem dX6_flushAll_191 : decode cX6_flushAll 191 = .ok (.aload_n 0, 1) := by decide +kernel
theorem dX6_flushAll_192 : decode cX6_flushAll 192 = .ok (.iconst 2, 1) := by decide +kernel
theorem dX6_flushAll_193 : decode cX6_flushAll 193 = .ok (.aload_n 0, 1) := by decide +kernel
theorem dX6_flushAll_194 : decode cX6_flushAll 194 = .ok (.getfield 50, 3) := by decide +kernel
theorem dX6_flushAll_197 : decode cX6_flushAll 197 = .ok (.iconst 2, 1) := by decide +kernel
theorem dX6_flushAll_198 : decode cX6_flushAll 198 = .ok (.isub, 1) := by decide +kernel
theorem dX6_flushAll_199 : decode cX6_flushAll 199 = .ok (.iload_n 1, 1) := by decide +kernel
theorem dX6_flushAll_200 : decode cX6_flushAll 200 = .ok (.iadd, 1) := by decide +kernel
theorem dX6_flushAll_201 : decode cX6_flushAll 201 = .ok (.bipush 62, 2) := by decide +kernel
theorem dX6_flushAll_203 : decode cX6_flushAll 203 = .ok (.irem, 1) := by decide +kernel
theorem dX6_flushAll_204 : decode cX6_flushAll 204 = .ok (.iadd, 1) := by decide +kernel
theorem dX6_flushAll_205 : decode cX6_flushAll 205 = .ok (.invokevirtual 128, 3) := by decide +kernel
theorem dX6_flushAll_208 : decode cX6_flushAll 208 = .ok (.ifCond .ne 23, 3) := by decide +kernel
theorem dX6_flushAll_211 : decode cX6_flushAll 211 = .ok (.aload_n 0, 1) := by decide +kernel
theorem dX6_flushAll_212 : decode cX6_flushAll 212 = .ok (.dup, 1) := by decide +kernel
theorem dX6_flushAll_213 : decode cX6_flushAll 213 = .ok (.getfield 132, 3) := by decide +kernel
theorem dX6_flushAll_216 : decode cX6_flushAll 216 = .ok (.iload_n 1, 1) := by decide +kernel
theorem dX6_flushAll_217 : decode cX6_flushAll 217 = .ok (.ifCond .le 7, 3) := by decide +kernel
theorem dX6_flushAll_220 : decode cX6_flushAll 220 = .ok (.iconst 1, 1) := by decide +kernel
theorem dX6_flushAll_221 : decode cX6_flushAll 221 = .ok (.goto 4, 3) := by decide +kernel
theorem dX6_flushAll_224 : decode cX6_flushAll 224 = .ok (.iconst 0, 1) := by decide +kernel
theorem dX6_flushAll_225 : decode cX6_flushAll 225 = .ok (.iadd, 1) := by decide +kernel
theorem dX6_flushAll_226 : decode cX6_flushAll 226 = .ok (.putfield 132, 3) := by decide +kernel
theorem dX6_flushAll_229 : decode cX6_flushAll 229 = .ok (.iload_n 1, 1) := by decide +kernel
theorem dX6_flushAll_230 : decode cX6_flushAll 230 = .ok (.ireturn, 1) := by decide +kernel
theorem dX6_flushAll_231 : decode cX6_flushAll 231 = .ok (.iinc 1 1, 3) := by decide +kernel
theorem dX6_flushAll_234 : decode cX6_flushAll 234 = .ok (.iload_n 3, 1) := by decide +kernel
theorem dX6_flushAll_235 : decode cX6_flushAll 235 = .ok (.iload 4, 2) := by decide +kernel
theorem dX6_flushAll_237 : decode cX6_flushAll 237 = .ok (.iadd, 1) := by decide +kernel
theorem dX6_flushAll_238 : decode cX6_flushAll 238 = .ok (.istore_n 3, 1) := by decide +kernel
theorem dX6_flushAll_239 : decode cX6_flushAll 239 = .ok (.goto (-230), 3) := by decide +kernel
theorem dX6_flushAll_242 : decode cX6_flushAll 242 = .ok (.iconst 0, 1) := by decide +kernel
theorem dX6_flushAll_243 : decode cX6_flushAll 243 = .ok (.istore 4, 2) := by decide +kernel
theorem dX6_flushAll_245 : decode cX6_flushAll 245 = .ok (.iload 4, 2) := by decide +kernel
theorem dX6_flushAll_247 : decode cX6_flushAll 247 = .ok (.aload_n 0, 1) := by decide +kernel
theorem dX6_flushAll_248 : decode cX6_flushAll 248 = .ok (.getfield 102, 3) := by decide +kernel
theorem dX6_flushAll_251 : decode cX6_flushAll 251 = .ok (.if_icmp .ge 124, 3) := by decide +kernel
theorem dX6_flushAll_254 : decode cX6_flushAll 254 = .ok (.iload 4, 2) := by decide +kernel
theorem dX6_flushAll_256 : decode cX6_flushAll 256 = .ok (.iconst 1, 1) := by decide +kernel
theorem dX6_flushAll_257 : decode cX6_flushAll 257 = .ok (.iadd, 1) := by decide +kernel
theorem dX6_flushAll_258 : decode cX6_flushAll 258 = .ok (.aload_n 0, 1) := by decide +kernel
theorem dX6_flushAll_259 : decode cX6_flushAll 259 = .ok (.getfield 102, 3) := by decide +kernel
theorem dX6_flushAll_262 : decode cX6_flushAll 262 = .ok (.if_icmp .ge 15, 3) := by decide +kernel
theorem dX6_flushAll_265 : decode cX6_flushAll 265 = .ok (.aload_n 0, 1) := by decide +kernel
theorem dX6_flushAll_266 : decode cX6_flushAll 266 = .ok (.getfield 34, 3) := by decide +kernel
theorem dX6_flushAll_269 : decode cX6_flushAll 269 = .ok (.iload 4, 2) := by decide +kernel
theorem dX6_flushAll_271 : decode cX6_flushAll 271 = .ok (.iconst 1, 1) := by decide +kernel
theorem dX6_flushAll_272 : decode cX6_flushAll 272 = .ok (.iadd, 1) := by decide +kernel
theorem dX6_flushAll_273 : decode cX6_flushAll 273 = .ok (.iaload, 1) := by decide +kernel
theorem dX6_flushAll_274 : decode cX6_flushAll 274 = .ok (.goto 7, 3) := by decide +kernel
theorem dX6_flushAll_277 : decode cX6_flushAll 277 = .ok (.aload_n 0, 1) := by decide +kernel
theorem dX6_flushAll_278 : decode cX6_flushAll 278 = .ok (.getfield 99, 3) := by decide +kernel
theorem dX6_flushAll_281 : decode cX6_flushAll 281 = .ok (.istore 5, 2) := by decide +kernel
theorem dX6_flushAll_283 : decode cX6_flushAll 283 = .ok (.aload_n 0, 1) := by decide +kernel
theorem dX6_flushAll_284 : decode cX6_flushAll 284 = .ok (.getfield 115, 3) := by decide +kernel
theorem dX6_flushAll_287 : decode cX6_flushAll 287 = .ok (.iconst 1, 1) := by decide +kernel
theorem dX6_flushAll_288 : decode cX6_flushAll 288 = .ok (.iadd, 1) := by decide +kernel
theorem dX6_flushAll_289 : decode cX6_flushAll 289 = .ok (.aload_n 0, 1) := by decide +kernel
theorem dX6_flushAll_290 : decode cX6_flushAll 290 = .ok (.getfield 44, 3) := by decide +kernel
theorem dX6_flushAll_293 : decode cX6_flushAll 293 = .ok (.isub, 1) := by decide +kernel
theorem dX6_flushAll_294 : decode cX6_flushAll 294 = .ok (.istore 6, 2) := by decide +kernel
theorem dX6_flushAll_296 : decode cX6_flushAll 296 = .ok (.aload_n 0, 1) := by decide +kernel
theorem dX6_flushAll_297 : decode cX6_flushAll 297 = .ok (.getfield 56, 3) := by decide +kernel
theorem dX6_flushAll_300 : decode cX6_flushAll 300 = .ok (.iload 6, 2) := by decide +kernel
theorem dX6_flushAll_302 : decode cX6_flushAll 302 = .ok (.iconst 2, 1) := by decide +kernel
theorem dX6_flushAll_303 : decode cX6_flushAll 303 = .ok (.iload_n 2, 1) := by decide +kernel
theorem dX6_flushAll_304 : decode cX6_flushAll 304 = .ok (.iconst 2, 1) := by decide +kernel
theorem dX6_flushAll_305 : decode cX6_flushAll 305 = .ok (.isub, 1) := by decide +kernel
theorem dX6_flushAll_306 : decode cX6_flushAll 306 = .ok (.aload_n 0, 1) := by decide +kernel
theorem dX6_flushAll_307 : decode cX6_flushAll 307 = .ok (.getfield 34, 3) := by decide +kernel
theorem dX6_flushAll_310 : decode cX6_flushAll 310 = .ok (.iload 4, 2) := by decide +kernel
theorem dX6_flushAll_312 : decode cX6_flushAll 312 = .ok (.iaload, 1) := by decide +kernel
theorem dX6_flushAll_313 : decode cX6_flushAll 313 = .ok (.bipush 48, 2) := by decide +kernel
theorem dX6_flushAll_315 : decode cX6_flushAll 315 = .ok (.idiv, 1) := by decide +kernel
theorem dX6_flushAll_316 : decode cX6_flushAll 316 = .ok (.iadd, 1) := by decide +kernel
theorem dX6_flushAll_317 : decode cX6_flushAll 317 = .ok (.bipush 62, 2) := by decide +kernel
theorem dX6_flushAll_319 : decode cX6_flushAll 319 = .ok (.irem, 1) := by decide +kernel
theorem dX6_flushAll_320 : decode cX6_flushAll 320 = .ok (.iadd, 1) := by decide +kernel
theorem dX6_flushAll_321 : decode cX6_flushAll 321 = .ok (.iastore, 1) := by decide +kernel
theorem dX6_flushAll_322 : decode cX6_flushAll 322 = .ok (.aload_n 0, 1) := by decide +kernel
theorem dX6_flushAll_323 : decode cX6_flushAll 323 = .ok (.getfield 59, 3) := by decide +kernel
theorem dX6_flushAll_326 : decode cX6_flushAll 326 = .ok (.iload 6, 2) := by decide +kernel
theorem dX6_flushAll_328 : decode cX6_flushAll 328 = .ok (.aload_n 0, 1) := by decide +kernel
theorem dX6_flushAll_329 : decode cX6_flushAll 329 = .ok (.getfield 34, 3) := by decide +kernel
theorem dX6_flushAll_332 : decode cX6_flushAll 332 = .ok (.iload 4, 2) := by decide +kernel
theorem dX6_flushAll_334 : decode cX6_flushAll 334 = .ok (.iaload, 1) := by decide +kernel
theorem dX6_flushAll_335 : decode cX6_flushAll 335 = .ok (.bipush 48, 2) := by decide +kernel
theorem dX6_flushAll_337 : decode cX6_flushAll 337 = .ok (.irem, 1) := by decide +kernel
theorem dX6_flushAll_338 : decode cX6_flushAll 338 = .ok (.iastore, 1) := by decide +kernel
theorem dX6_flushAll_339 : decode cX6_flushAll 339 = .ok (.aload_n 0, 1) := by decide +kernel
theorem dX6_flushAll_340 : decode cX6_flushAll 340 = .ok (.getfield 62, 3) := by decide +kernel
theorem dX6_flushAll_343 : decode cX6_flushAll 343 = .ok (.iload 6, 2) := by decide +kernel
theorem dX6_flushAll_345 : decode cX6_flushAll 345 = .ok (.iload 5, 2) := by decide +kernel
theorem dX6_flushAll_347 : decode cX6_flushAll 347 = .ok (.aload_n 0, 1) := by decide +kernel
theorem dX6_flushAll_348 : decode cX6_flushAll 348 = .ok (.getfield 34, 3) := by decide +kernel
theorem dX6_flushAll_351 : decode cX6_flushAll 351 = .ok (.iload 4, 2) := by decide +kernel
theorem dX6_flushAll_353 : decode cX6_flushAll 353 = .ok (.iaload, 1) := by decide +kernel
theorem dX6_flushAll_354 : decode cX6_flushAll 354 = .ok (.isub, 1) := by decide +kernel
theorem dX6_flushAll_355 : decode cX6_flushAll 355 = .ok (.bipush 6, 2) := by decide +kernel
theorem dX6_flushAll_357 : decode cX6_flushAll 357 = .ok (.isub, 1) := by decide +kernel
theorem dX6_flushAll_358 : decode cX6_flushAll 358 = .ok (.iastore, 1) := by decide +kernel
theorem dX6_flushAll_359 : decode cX6_flushAll 359 = .ok (.aload_n 0, 1) := by decide +kernel
theorem dX6_flushAll_360 : decode cX6_flushAll 360 = .ok (.dup, 1) := by decide +kernel
theorem dX6_flushAll_361 : decode cX6_flushAll 361 = .ok (.getfield 115, 3) := by decide +kernel
theorem dX6_flushAll_364 : decode cX6_flushAll 364 = .ok (.iconst 1, 1) := by decide +kernel
theorem dX6_flushAll_365 : decode cX6_flushAll 365 = .ok (.iadd, 1) := by decide +kernel
theorem dX6_flushAll_366 : decode cX6_flushAll 366 = .ok (.putfield 115, 3) := by decide +kernel
theorem dX6_flushAll_369 : decode cX6_flushAll 369 = .ok (.iinc 4 1, 3) := by decide +kernel
theorem dX6_flushAll_372 : decode cX6_flushAll 372 = .ok (.goto (-127), 3) := by decide +kernel
theorem dX6_flushAll_375 : decode cX6_flushAll 375 = .ok (.aload_n 0, 1) := by decide +kernel
theorem dX6_flushAll_376 : decode cX6_flushAll 376 = .ok (.iconst 2, 1) := by decide +kernel
theorem dX6_flushAll_377 : decode cX6_flushAll 377 = .ok (.aload_n 0, 1) := by decide +kernel
theorem dX6_flushAll_378 : decode cX6_flushAll 378 = .ok (.getfield 50, 3) := by decide +kernel
theorem dX6_flushAll_381 : decode cX6_flushAll 381 = .ok (.iconst 2, 1) := by decide +kernel
theorem dX6_flushAll_382 : decode cX6_flushAll 382 = .ok (.isub, 1) := by decide +kernel
theorem dX6_flushAll_383 : decode cX6_flushAll 383 = .ok (.iload_n 1, 1) := by decide +kernel
theorem dX6_flushAll_384 : decode cX6_flushAll 384 = .ok (.iadd, 1) := by decide +kernel
theorem dX6_flushAll_385 : decode cX6_flushAll 385 = .ok (.bipush 62, 2) := by decide +kernel
theorem dX6_flushAll_387 : decode cX6_flushAll 387 = .ok (.irem, 1) := by decide +kernel
theorem dX6_flushAll_388 : decode cX6_flushAll 388 = .ok (.iadd, 1) := by decide +kernel
theorem dX6_flushAll_389 : decode cX6_flushAll 389 = .ok (.putfield 50, 3) := by decide +kernel
theorem dX6_flushAll_392 : decode cX6_flushAll 392 = .ok (.aload_n 0, 1) := by decide +kernel
theorem dX6_flushAll_393 : decode cX6_flushAll 393 = .ok (.dup, 1) := by decide +kernel
theorem dX6_flushAll_394 : decode cX6_flushAll 394 = .ok (.getfield 53, 3) := by decide +kernel
theorem dX6_flushAll_397 : decode cX6_flushAll 397 = .ok (.iload_n 1, 1) := by decide +kernel
theorem dX6_flushAll_398 : decode cX6_flushAll 398 = .ok (.iadd, 1) := by decide +kernel
theorem dX6_flushAll_399 : decode cX6_flushAll 399 = .ok (.putfield 53, 3) := by decide +kernel
theorem dX6_flushAll_402 : decode cX6_flushAll 402 = .ok (.aload_n 0, 1) := by decide +kernel
theorem dX6_flushAll_403 : decode cX6_flushAll 403 = .ok (.dup, 1) := by decide +kernel
theorem dX6_flushAll_404 : decode cX6_flushAll 404 = .ok (.getfield 132, 3) := by decide +kernel
theorem dX6_flushAll_407 : decode cX6_flushAll 407 = .ok (.iload_n 1, 1) := by decide +kernel
theorem dX6_flushAll_408 : decode cX6_flushAll 408 = .ok (.ifCond .le 7, 3) := by decide +kernel
theorem dX6_flushAll_411 : decode cX6_flushAll 411 = .ok (.iconst 1, 1) := by decide +kernel
theorem dX6_flushAll_412 : decode cX6_flushAll 412 = .ok (.goto 4, 3) := by decide +kernel
theorem dX6_flushAll_415 : decode cX6_flushAll 415 = .ok (.iconst 0, 1) := by decide +kernel
theorem dX6_flushAll_416 : decode cX6_flushAll 416 = .ok (.iadd, 1) := by decide +kernel
theorem dX6_flushAll_417 : decode cX6_flushAll 417 = .ok (.putfield 132, 3) := by decide +kernel
theorem dX6_flushAll_420 : decode cX6_flushAll 420 = .ok (.aload_n 0, 1) := by decide +kernel
theorem dX6_flushAll_421 : decode cX6_flushAll 421 = .ok (.iconst 0, 1) := by decide +kernel
theorem dX6_flushAll_422 : decode cX6_flushAll 422 = .ok (.putfield 99, 3) := by decide +kernel
theorem dX6_flushAll_425 : decode cX6_flushAll 425 = .ok (.aload_n 0, 1) := by decide +kernel
theorem dX6_flushAll_426 : decode cX6_flushAll 426 = .ok (.iconst 0, 1) := by decide +kernel
theorem dX6_flushAll_427 : decode cX6_flushAll 427 = .ok (.putfield 102, 3) := by decide +kernel
theorem dX6_flushAll_430 : decode cX6_flushAll 430 = .ok (.aload_n 0, 1) := by decide +kernel
theorem dX6_flushAll_431 : decode cX6_flushAll 431 = .ok (.iconst 0, 1) := by decide +kernel
theorem dX6_flushAll_432 : decode cX6_flushAll 432 = .ok (.putfield 105, 3) := by decide +kernel
theorem dX6_flushAll_435 : decode cX6_flushAll 435 = .ok (.iload_n 1, 1) := by decide +kernel
theorem dX6_flushAll_436 : decode cX6_flushAll 436 = .ok (.ireturn, 1) := by decide +kernel
theorem dX6_flush_0 : decode cX6_flush 0 = .ok (.aload_n 0, 1) := by decide +kernel
theorem dX6_flush_1 : decode cX6_flush 1 = .ok (.getfield 17, 3) := by decide +kernel
theorem dX6_flush_4 : decode cX6_flush 4 = .ok (.ifCond .eq 10, 3) := by decide +kernel
theorem dX6_flush_7 : decode cX6_flush 7 = .ok (.aload_n 0, 1) := by decide +kernel
theorem dX6_flush_8 : decode cX6_flush 8 = .ok (.invokevirtual 122, 3) := by decide +kernel
theorem dX6_flush_11 : decode cX6_flush 11 = .ok (.goto 5, 3) := by decide +kernel
theorem dX6_flush_14 : decode cX6_flush 14 = .ok (.bipush (-2), 2) := by decide +kernel
theorem dX6_flush_16 : decode cX6_flush 16 = .ok (.ireturn, 1) := by decide +kernel
theorem dX6_tick_0 : decode cX6_tick 0 = .ok (.iload_n 1, 1) := by decide +kernel
theorem dX6_tick_1 : decode cX6_tick 1 = .ok (.iconst 1, 1) := by decide +kernel
theorem dX6_tick_2 : decode cX6_tick 2 = .ok (.if_icmp .lt 10, 3) := by decide +kernel
theorem dX6_tick_5 : decode cX6_tick 5 = .ok (.iload_n 1, 1) := by decide +kernel
theorem dX6_tick_6 : decode cX6_tick 6 = .ok (.sipush 1000, 3) := by decide +kernel
theorem dX6_tick_9 : decode cX6_tick 9 = .ok (.if_icmp .le 17, 3) := by decide +kernel
theorem dX6_tick_12 : decode cX6_tick 12 = .ok (.aload_n 0, 1) := by decide +kernel
theorem dX6_tick_13 : decode cX6_tick 13 = .ok (.getfield 17, 3) := by decide +kernel
theorem dX6_tick_16 : decode cX6_tick 16 = .ok (.ifCond .eq 7, 3) := by decide +kernel
theorem dX6_tick_19 : decode cX6_tick 19 = .ok (.iconst (-1), 1) := by decide +kernel
theorem dX6_tick_20 : decode cX6_tick 20 = .ok (.goto 5, 3) := by decide +kernel
theorem dX6_tick_23 : decode cX6_tick 23 = .ok (.bipush (-2), 2) := by decide +kernel
theorem dX6_tick_25 : decode cX6_tick 25 = .ok (.ireturn, 1) := by decide +kernel
theorem dX6_tick_26 : decode cX6_tick 26 = .ok (.aload_n 0, 1) := by decide +kernel
theorem dX6_tick_27 : decode cX6_tick 27 = .ok (.getfield 17, 3) := by decide +kernel
theorem dX6_tick_30 : decode cX6_tick 30 = .ok (.ifCond .ne 6, 3) := by decide +kernel
theorem dX6_tick_33 : decode cX6_tick 33 = .ok (.bipush (-2), 2) := by decide +kernel
theorem dX6_tick_35 : decode cX6_tick 35 = .ok (.ireturn, 1) := by decide +kernel
theorem dX6_tick_36 : decode cX6_tick 36 = .ok (.iconst 0, 1) := by decide +kernel
theorem dX6_tick_37 : decode cX6_tick 37 = .ok (.istore_n 2, 1) := by decide +kernel
theorem dX6_tick_38 : decode cX6_tick 38 = .ok (.iconst 0, 1) := by decide +kernel
theorem dX6_tick_39 : decode cX6_tick 39 = .ok (.istore_n 3, 1) := by decide +kernel
theorem dX6_tick_40 : decode cX6_tick 40 = .ok (.iload_n 3, 1) := by decide +kernel
theorem dX6_tick_41 : decode cX6_tick 41 = .ok (.iload_n 1, 1) := by decide +kernel
theorem dX6_tick_42 : decode cX6_tick 42 = .ok (.if_icmp .ge 52, 3) := by decide +kernel
theorem dX6_tick_45 : decode cX6_tick 45 = .ok (.aload_n 0, 1) := by decide +kernel
theorem dX6_tick_46 : decode cX6_tick 46 = .ok (.getfield 17, 3) := by decide +kernel
theorem dX6_tick_49 : decode cX6_tick 49 = .ok (.ifCond .eq 45, 3) := by decide +kernel
theorem dX6_tick_52 : decode cX6_tick 52 = .ok (.aload_n 0, 1) := by decide +kernel
theorem dX6_tick_53 : decode cX6_tick 53 = .ok (.getfield 102, 3) := by decide +kernel
theorem dX6_tick_56 : decode cX6_tick 56 = .ok (.ifCond .le 32, 3) := by decide +kernel
theorem dX6_tick_59 : decode cX6_tick 59 = .ok (.aload_n 0, 1) := by decide +kernel
theorem dX6_tick_60 : decode cX6_tick 60 = .ok (.dup, 1) := by decide +kernel
theorem dX6_tick_61 : decode cX6_tick 61 = .ok (.getfield 105, 3) := by decide +kernel
theorem dX6_tick_64 : decode cX6_tick 64 = .ok (.iconst 1, 1) := by decide +kernel
theorem dX6_tick_65 : decode cX6_tick 65 = .ok (.iadd, 1) := by decide +kernel
theorem dX6_tick_66 : decode cX6_tick 66 = .ok (.putfield 105, 3) := by decide +kernel
theorem dX6_tick_69 : decode cX6_tick 69 = .ok (.aload_n 0, 1) := by decide +kernel
theorem dX6_tick_70 : decode cX6_tick 70 = .ok (.getfield 105, 3) := by decide +kernel
theorem dX6_tick_73 : decode cX6_tick 73 = .ok (.aload_n 0, 1) := by decide +kernel
theorem dX6_tick_74 : decode cX6_tick 74 = .ok (.getfield 25, 3) := by decide +kernel
theorem dX6_tick_77 : decode cX6_tick 77 = .ok (.if_icmp .lt 11, 3) := by decide +kernel
theorem dX6_tick_80 : decode cX6_tick 80 = .ok (.aload_n 0, 1) := by decide +kernel
theorem dX6_tick_81 : decode cX6_tick 81 = .ok (.invokevirtual 122, 3) := by decide +kernel
theorem dX6_tick_84 : decode cX6_tick 84 = .ok (.pop, 1) := by decide +kernel
theorem dX6_tick_85 : decode cX6_tick 85 = .ok (.iinc 2 1, 3) := by decide +kernel
theorem dX6_tick_88 : decode cX6_tick 88 = .ok (.iinc 3 1, 3) := by decide +kernel
theorem dX6_tick_91 : decode cX6_tick 91 = .ok (.goto (-51), 3) := by decide +kernel
theorem dX6_tick_94 : decode cX6_tick 94 = .ok (.iload_n 2, 1) := by decide +kernel
theorem dX6_tick_95 : decode cX6_tick 95 = .ok (.ireturn, 1) := by decide +kernel
theorem dX6_checkpoint_0 : decode cX6_checkpoint 0 = .ok (.aload_n 0, 1) := by decide +kernel
theorem dX6_checkpoint_1 : decode cX6_checkpoint 1 = .ok (.getfield 17, 3) := by decide +kernel
theorem dX6_checkpoint_4 : decode cX6_checkpoint 4 = .ok (.ifCond .ne 6, 3) := by decide +kernel
theorem dX6_checkpoint_7 : decode cX6_checkpoint 7 = .ok (.bipush (-2), 2) := by decide +kernel
theorem dX6_checkpoint_9 : decode cX6_checkpoint 9 = .ok (.ireturn, 1) := by decide +kernel
theorem dX6_checkpoint_10 : decode cX6_checkpoint 10 = .ok (.iload_n 1, 1) := by decide +kernel
theorem dX6_checkpoint_11 : decode cX6_checkpoint 11 = .ok (.aload_n 0, 1) := by decide +kernel
theorem dX6_checkpoint_12 : decode cX6_checkpoint 12 = .ok (.getfield 44, 3) := by decide +kernel
theorem dX6_checkpoint_15 : decode cX6_checkpoint 15 = .ok (.if_icmp .lt 13, 3) := by decide +kernel
theorem dX6_checkpoint_18 : decode cX6_checkpoint 18 = .ok (.iload_n 1, 1) := by decide +kernel
theorem dX6_checkpoint_19 : decode cX6_checkpoint 19 = .ok (.aload_n 0, 1) := by decide +kernel
theorem dX6_checkpoint_20 : decode cX6_checkpoint 20 = .ok (.getfield 115, 3) := by decide +kernel
theorem dX6_checkpoint_23 : decode cX6_checkpoint 23 = .ok (.iconst 1, 1) := by decide +kernel
theorem dX6_checkpoint_24 : decode cX6_checkpoint 24 = .ok (.iadd, 1) := by decide +kernel
theorem dX6_checkpoint_25 : decode cX6_checkpoint 25 = .ok (.if_icmp .le 5, 3) := by decide +kernel
theorem dX6_checkpoint_28 : decode cX6_checkpoint 28 = .ok (.iconst (-1), 1) := by decide +kernel
theorem dX6_checkpoint_29 : decode cX6_checkpoint 29 = .ok (.ireturn, 1) := by decide +kernel
theorem dX6_checkpoint_30 : decode cX6_checkpoint 30 = .ok (.aload_n 0, 1) := by decide +kernel
theorem dX6_checkpoint_31 : decode cX6_checkpoint 31 = .ok (.getfield 50, 3) := by decide +kernel
theorem dX6_checkpoint_34 : decode cX6_checkpoint 34 = .ok (.istore_n 2, 1) := by decide +kernel
theorem dX6_checkpoint_35 : decode cX6_checkpoint 35 = .ok (.aload_n 0, 1) := by decide +kernel
theorem dX6_checkpoint_36 : decode cX6_checkpoint 36 = .ok (.getfield 53, 3) := by decide +kernel
theorem dX6_checkpoint_39 : decode cX6_checkpoint 39 = .ok (.istore_n 3, 1) := by decide +kernel
theorem dX6_checkpoint_40 : decode cX6_checkpoint 40 = .ok (.iload_n 1, 1) := by decide +kernel
theorem dX6_checkpoint_41 : decode cX6_checkpoint 41 = .ok (.istore 4, 2) := by decide +kernel
theorem dX6_checkpoint_43 : decode cX6_checkpoint 43 = .ok (.iload_n 1, 1) := by decide +kernel
theorem dX6_checkpoint_44 : decode cX6_checkpoint 44 = .ok (.aload_n 0, 1) := by decide +kernel
theorem dX6_checkpoint_45 : decode cX6_checkpoint 45 = .ok (.getfield 115, 3) := by decide +kernel
theorem dX6_checkpoint_48 : decode cX6_checkpoint 48 = .ok (.if_icmp .gt 57, 3) := by decide +kernel
theorem dX6_checkpoint_51 : decode cX6_checkpoint 51 = .ok (.aload_n 0, 1) := by decide +kernel
theorem dX6_checkpoint_52 : decode cX6_checkpoint 52 = .ok (.getfield 56, 3) := by decide +kernel
theorem dX6_checkpoint_55 : decode cX6_checkpoint 55 = .ok (.iload_n 1, 1) := by decide +kernel
theorem dX6_checkpoint_56 : decode cX6_checkpoint 56 = .ok (.aload_n 0, 1) := by decide +kernel
theorem dX6_checkpoint_57 : decode cX6_checkpoint 57 = .ok (.getfield 44, 3) := by decide +kernel
theorem dX6_checkpoint_60 : decode cX6_checkpoint 60 = .ok (.isub, 1) := by decide +kernel
theorem dX6_checkpoint_61 : decode cX6_checkpoint 61 = .ok (.iaload, 1) := by decide +kernel
theorem dX6_checkpoint_62 : decode cX6_checkpoint 62 = .ok (.istore_n 2, 1) := by decide +kernel
theorem dX6_checkpoint_63 : decode cX6_checkpoint 63 = .ok (.aload_n 0, 1) := by decide +kernel
theorem dX6_checkpoint_64 : decode cX6_checkpoint 64 = .ok (.bipush 64, 2) := by decide +kernel
theorem dX6_checkpoint_66 : decode cX6_checkpoint 66 = .ok (.iload_n 2, 1) := by decide +kernel
theorem dX6_checkpoint_67 : decode cX6_checkpoint 67 = .ok (.imul, 1) := by decide +kernel
theorem dX6_checkpoint_68 : decode cX6_checkpoint 68 = .ok (.invokevirtual 135, 3) := by decide +kernel
theorem dX6_checkpoint_71 : decode cX6_checkpoint 71 = .ok (.istore_n 3, 1) := by decide +kernel
theorem dX6_checkpoint_72 : decode cX6_checkpoint 72 = .ok (.iload 4, 2) := by decide +kernel
theorem dX6_checkpoint_74 : decode cX6_checkpoint 74 = .ok (.aload_n 0, 1) := by decide +kernel
theorem dX6_checkpoint_75 : decode cX6_checkpoint 75 = .ok (.getfield 44, 3) := by decide +kernel
theorem dX6_checkpoint_78 : decode cX6_checkpoint 78 = .ok (.if_icmp .le 27, 3) := by decide +kernel
theorem dX6_checkpoint_81 : decode cX6_checkpoint 81 = .ok (.aload_n 0, 1) := by decide +kernel
theorem dX6_checkpoint_82 : decode cX6_checkpoint 82 = .ok (.getfield 56, 3) := by decide +kernel
theorem dX6_checkpoint_85 : decode cX6_checkpoint 85 = .ok (.iload 4, 2) := by decide +kernel
theorem dX6_checkpoint_87 : decode cX6_checkpoint 87 = .ok (.iconst 1, 1) := by decide +kernel
theorem dX6_checkpoint_88 : decode cX6_checkpoint 88 = .ok (.isub, 1) := by decide +kernel
theorem dX6_checkpoint_89 : decode cX6_checkpoint 89 = .ok (.aload_n 0, 1) := by decide +kernel
theorem dX6_checkpoint_90 : decode cX6_checkpoint 90 = .ok (.getfield 44, 3) := by decide +kernel
theorem dX6_checkpoint_93 : decode cX6_checkpoint 93 = .ok (.isub, 1) := by decide +kernel
theorem dX6_checkpoint_94 : decode cX6_checkpoint 94 = .ok (.iaload, 1) := by decide +kernel
theorem dX6_checkpoint_95 : decode cX6_checkpoint 95 = .ok (.iload_n 2, 1) := by decide +kernel
theorem dX6_checkpoint_96 : decode cX6_checkpoint 96 = .ok (.if_icmp .ne 9, 3) := by decide +kernel
theorem dX6_checkpoint_99 : decode cX6_checkpoint 99 = .ok (.iinc 4 (-1), 3) := by decide +kernel
theorem dX6_checkpoint_102 : decode cX6_checkpoint 102 = .ok (.goto (-30), 3) := by decide +kernel
theorem dX6_checkpoint_105 : decode cX6_checkpoint 105 = .ok (.aload_n 0, 1) := by decide +kernel
theorem dX6_checkpoint_106 : decode cX6_checkpoint 106 = .ok (.getfield 38, 3) := by decide +kernel
theorem dX6_checkpoint_109 : decode cX6_checkpoint 109 = .ok (.istore 5, 2) := by decide +kernel
theorem dX6_checkpoint_111 : decode cX6_checkpoint 111 = .ok (.aload_n 0, 1) := by decide +kernel
theorem dX6_checkpoint_112 : decode cX6_checkpoint 112 = .ok (.getfield 41, 3) := by decide +kernel
theorem dX6_checkpoint_115 : decode cX6_checkpoint 115 = .ok (.istore 6, 2) := by decide +kernel
theorem dX6_checkpoint_117 : decode cX6_checkpoint 117 = .ok (.aload_n 0, 1) := by decide +kernel
theorem dX6_checkpoint_118 : decode cX6_checkpoint 118 = .ok (.getfield 44, 3) := by decide +kernel
theorem dX6_checkpoint_121 : decode cX6_checkpoint 121 = .ok (.istore 7, 2) := by decide +kernel
theorem dX6_checkpoint_123 : decode cX6_checkpoint 123 = .ok (.aload_n 0, 1) := by decide +kernel
theorem dX6_checkpoint_124 : decode cX6_checkpoint 124 = .ok (.getfield 47, 3) := by decide +kernel
theorem dX6_checkpoint_127 : decode cX6_checkpoint 127 = .ok (.istore 8, 2) := by decide +kernel
theorem dX6_checkpoint_129 : decode cX6_checkpoint 129 = .ok (.aload_n 0, 1) := by decide +kernel
theorem dX6_checkpoint_130 : decode cX6_checkpoint 130 = .ok (.dup, 1) := by decide +kernel
theorem dX6_checkpoint_131 : decode cX6_checkpoint 131 = .ok (.getfield 38, 3) := by decide +kernel
theorem dX6_checkpoint_134 : decode cX6_checkpoint 134 = .ok (.iconst 1, 1) := by decide +kernel
theorem dX6_checkpoint_135 : decode cX6_checkpoint 135 = .ok (.iadd, 1) := by decide +kernel
theorem dX6_checkpoint_136 : decode cX6_checkpoint 136 = .ok (.putfield 38, 3) := by decide +kernel
theorem dX6_checkpoint_139 : decode cX6_checkpoint 139 = .ok (.aload_n 0, 1) := by decide +kernel
theorem dX6_checkpoint_140 : decode cX6_checkpoint 140 = .ok (.iload_n 3, 1) := by decide +kernel
theorem dX6_checkpoint_141 : decode cX6_checkpoint 141 = .ok (.putfield 41, 3) := by decide +kernel
theorem dX6_checkpoint_144 : decode cX6_checkpoint 144 = .ok (.aload_n 0, 1) := by decide +kernel
theorem dX6_checkpoint_145 : decode cX6_checkpoint 145 = .ok (.iload 4, 2) := by decide +kernel
theorem dX6_checkpoint_147 : decode cX6_checkpoint 147 = .ok (.putfield 44, 3) := by decide +kernel
theorem dX6_checkpoint_150 : decode cX6_checkpoint 150 = .ok (.aload_n 0, 1) := by decide +kernel
theorem dX6_checkpoint_151 : decode cX6_checkpoint 151 = .ok (.iload_n 2, 1) := by decide +kernel
theorem dX6_checkpoint_152 : decode cX6_checkpoint 152 = .ok (.putfield 47, 3) := by decide +kernel
theorem dX6_checkpoint_155 : decode cX6_checkpoint 155 = .ok (.aload_n 0, 1) := by decide +kernel
theorem dX6_checkpoint_156 : decode cX6_checkpoint 156 = .ok (.invokevirtual 71, 3) := by decide +kernel
theorem dX6_checkpoint_159 : decode cX6_checkpoint 159 = .ok (.aload_n 0, 1) := by decide +kernel
theorem dX6_checkpoint_160 : decode cX6_checkpoint 160 = .ok (.iconst 1, 1) := by decide +kernel
theorem dX6_checkpoint_161 : decode cX6_checkpoint 161 = .ok (.aload_n 0, 1) := by decide +kernel
theorem dX6_checkpoint_162 : decode cX6_checkpoint 162 = .ok (.getfield 139, 3) := by decide +kernel
theorem dX6_checkpoint_165 : decode cX6_checkpoint 165 = .ok (.isub, 1) := by decide +kernel
theorem dX6_checkpoint_166 : decode cX6_checkpoint 166 = .ok (.invokevirtual 128, 3) := by decide +kernel
theorem dX6_checkpoint_169 : decode cX6_checkpoint 169 = .ok (.ifCond .ne 30, 3) := by decide +kernel
theorem dX6_checkpoint_172 : decode cX6_checkpoint 172 = .ok (.aload_n 0, 1) := by decide +kernel
theorem dX6_checkpoint_173 : decode cX6_checkpoint 173 = .ok (.iload 5, 2) := by decide +kernel
theorem dX6_checkpoint_175 : decode cX6_checkpoint 175 = .ok (.putfield 38, 3) := by decide +kernel
theorem dX6_checkpoint_178 : decode cX6_checkpoint 178 = .ok (.aload_n 0, 1) := by decide +kernel
theorem dX6_checkpoint_179 : decode cX6_checkpoint 179 = .ok (.iload 6, 2) := by decide +kernel
theorem dX6_checkpoint_181 : decode cX6_checkpoint 181 = .ok (.putfield 41, 3) := by decide +kernel
theorem dX6_checkpoint_184 : decode cX6_checkpoint 184 = .ok (.aload_n 0, 1) := by decide +kernel
theorem dX6_checkpoint_185 : decode cX6_checkpoint 185 = .ok (.iload 7, 2) := by decide +kernel
theorem dX6_checkpoint_187 : decode cX6_checkpoint 187 = .ok (.putfield 44, 3) := by decide +kernel
theorem dX6_checkpoint_190 : decode cX6_checkpoint 190 = .ok (.aload_n 0, 1) := by decide +kernel
theorem dX6_checkpoint_191 : decode cX6_checkpoint 191 = .ok (.iload 8, 2) := by decide +kernel
theorem dX6_checkpoint_193 : decode cX6_checkpoint 193 = .ok (.putfield 47, 3) := by decide +kernel
theorem dX6_checkpoint_196 : decode cX6_checkpoint 196 = .ok (.bipush (-2), 2) := by decide +kernel
theorem dX6_checkpoint_198 : decode cX6_checkpoint 198 = .ok (.ireturn, 1) := by decide +kernel
theorem dX6_checkpoint_199 : decode cX6_checkpoint 199 = .ok (.aload_n 0, 1) := by decide +kernel
theorem dX6_checkpoint_200 : decode cX6_checkpoint 200 = .ok (.iconst 1, 1) := by decide +kernel
theorem dX6_checkpoint_201 : decode cX6_checkpoint 201 = .ok (.aload_n 0, 1) := by decide +kernel
theorem dX6_checkpoint_202 : decode cX6_checkpoint 202 = .ok (.getfield 139, 3) := by decide +kernel
theorem dX6_checkpoint_205 : decode cX6_checkpoint 205 = .ok (.isub, 1) := by decide +kernel
theorem dX6_checkpoint_206 : decode cX6_checkpoint 206 = .ok (.putfield 139, 3) := by decide +kernel
theorem dX6_checkpoint_209 : decode cX6_checkpoint 209 = .ok (.iload 4, 2) := by decide +kernel
theorem dX6_checkpoint_211 : decode cX6_checkpoint 211 = .ok (.iload 7, 2) := by decide +kernel
theorem dX6_checkpoint_213 : decode cX6_checkpoint 213 = .ok (.isub, 1) := by decide +kernel
theorem dX6_checkpoint_214 : decode cX6_checkpoint 214 = .ok (.istore 9, 2) := by decide +kernel
theorem dX6_checkpoint_216 : decode cX6_checkpoint 216 = .ok (.iconst 0, 1) := by decide +kernel
theorem dX6_checkpoint_217 : decode cX6_checkpoint 217 = .ok (.istore 10, 2) := by decide +kernel
theorem dX6_checkpoint_219 : decode cX6_checkpoint 219 = .ok (.iload 10, 2) := by decide +kernel
theorem dX6_checkpoint_221 : decode cX6_checkpoint 221 = .ok (.aload_n 0, 1) := by decide +kernel
theorem dX6_checkpoint_222 : decode cX6_checkpoint 222 = .ok (.getfield 115, 3) := by decide +kernel
theorem dX6_checkpoint_225 : decode cX6_checkpoint 225 = .ok (.iload 4, 2) := by decide +kernel
theorem dX6_checkpoint_227 : decode cX6_checkpoint 227 = .ok (.isub, 1) := by decide +kernel
theorem dX6_checkpoint_228 : decode cX6_checkpoint 228 = .ok (.if_icmp .gt 60, 3) := by decide +kernel
theorem dX6_checkpoint_231 : decode cX6_checkpoint 231 = .ok (.aload_n 0, 1) := by decide +kernel
theorem dX6_checkpoint_232 : decode cX6_checkpoint 232 = .ok (.getfield 56, 3) := by decide +kernel
theorem dX6_checkpoint_235 : decode cX6_checkpoint 235 = .ok (.iload 10, 2) := by decide +kernel
theorem dX6_checkpoint_237 : decode cX6_checkpoint 237 = .ok (.aload_n 0, 1) := by decide +kernel
theorem dX6_checkpoint_238 : decode cX6_checkpoint 238 = .ok (.getfield 56, 3) := by decide +kernel
theorem dX6_checkpoint_241 : decode cX6_checkpoint 241 = .ok (.iload 10, 2) := by decide +kernel
theorem dX6_checkpoint_243 : decode cX6_checkpoint 243 = .ok (.iload 9, 2) := by decide +kernel
theorem dX6_checkpoint_245 : decode cX6_checkpoint 245 = .ok (.iadd, 1) := by decide +kernel
theorem dX6_checkpoint_246 : decode cX6_checkpoint 246 = .ok (.iaload, 1) := by decide +kernel
theorem dX6_checkpoint_247 : decode cX6_checkpoint 247 = .ok (.iastore, 1) := by decide +kernel
theorem dX6_checkpoint_248 : decode cX6_checkpoint 248 = .ok (.aload_n 0, 1) := by decide +kernel
theorem dX6_checkpoint_249 : decode cX6_checkpoint 249 = .ok (.getfield 59, 3) := by decide +kernel
theorem dX6_checkpoint_252 : decode cX6_checkpoint 252 = .ok (.iload 10, 2) := by decide +kernel
theorem dX6_checkpoint_254 : decode cX6_checkpoint 254 = .ok (.aload_n 0, 1) := by decide +kernel
theorem dX6_checkpoint_255 : decode cX6_checkpoint 255 = .ok (.getfield 59, 3) := by decide +kernel
theorem dX6_checkpoint_258 : decode cX6_checkpoint 258 = .ok (.iload 10, 2) := by decide +kernel
theorem dX6_checkpoint_260 : decode cX6_checkpoint 260 = .ok (.iload 9, 2) := by decide +kernel
theorem dX6_checkpoint_262 : decode cX6_checkpoint 262 = .ok (.iadd, 1) := by decide +kernel
theorem dX6_checkpoint_263 : decode cX6_checkpoint 263 = .ok (.iaload, 1) := by decide +kernel
theorem dX6_checkpoint_264 : decode cX6_checkpoint 264 = .ok (.iastore, 1) := by decide +kernel
theorem dX6_checkpoint_265 : decode cX6_checkpoint 265 = .ok (.aload_n 0, 1) := by decide +kernel
theorem dX6_checkpoint_266 : decode cX6_checkpoint 266 = .ok (.getfield 62, 3) := by decide +kernel
theorem dX6_checkpoint_269 : decode cX6_checkpoint 269 = .ok (.iload 10, 2) := by decide +kernel
theorem dX6_checkpoint_271 : decode cX6_checkpoint 271 = .ok (.aload_n 0, 1) := by decide +kernel
theorem dX6_checkpoint_272 : decode cX6_checkpoint 272 = .ok (.getfield 62, 3) := by decide +kernel
theorem dX6_checkpoint_275 : decode cX6_checkpoint 275 = .ok (.iload 10, 2) := by decide +kernel
theorem dX6_checkpoint_277 : decode cX6_checkpoint 277 = .ok (.iload 9, 2) := by decide +kernel
theorem dX6_checkpoint_279 : decode cX6_checkpoint 279 = .ok (.iadd, 1) := by decide +kernel
theorem dX6_checkpoint_280 : decode cX6_checkpoint 280 = .ok (.iaload, 1) := by decide +kernel
theorem dX6_checkpoint_281 : decode cX6_checkpoint 281 = .ok (.iastore, 1) := by decide +kernel
theorem dX6_checkpoint_282 : decode cX6_checkpoint 282 = .ok (.iinc 10 1, 3) := by decide +kernel
theorem dX6_checkpoint_285 : decode cX6_checkpoint 285 = .ok (.goto (-66), 3) := by decide +kernel
theorem dX6_checkpoint_288 : decode cX6_checkpoint 288 = .ok (.iload_n 3, 1) := by decide +kernel
theorem dX6_checkpoint_289 : decode cX6_checkpoint 289 = .ok (.iload 6, 2) := by decide +kernel
theorem dX6_checkpoint_291 : decode cX6_checkpoint 291 = .ok (.isub, 1) := by decide +kernel
theorem dX6_checkpoint_292 : decode cX6_checkpoint 292 = .ok (.ireturn, 1) := by decide +kernel
theorem dX6_cut_0 : decode cX6_cut 0 = .ok (.aload_n 0, 1) := by decide +kernel
theorem dX6_cut_1 : decode cX6_cut 1 = .ok (.getfield 17, 3) := by decide +kernel
theorem dX6_cut_4 : decode cX6_cut 4 = .ok (.ifCond .ne 5, 3) := by decide +kernel
theorem dX6_cut_7 : decode cX6_cut 7 = .ok (.iconst 0, 1) := by decide +kernel
theorem dX6_cut_8 : decode cX6_cut 8 = .ok (.ireturn, 1) := by decide +kernel
theorem dX6_cut_9 : decode cX6_cut 9 = .ok (.aload_n 0, 1) := by decide +kernel
theorem dX6_cut_10 : decode cX6_cut 10 = .ok (.invokevirtual 93, 3) := by decide +kernel
theorem dX6_cut_13 : decode cX6_cut 13 = .ok (.iconst 1, 1) := by decide +kernel
theorem dX6_cut_14 : decode cX6_cut 14 = .ok (.ireturn, 1) := by decide +kernel
theorem dX6_arm_0 : decode cX6_arm 0 = .ok (.aload_n 0, 1) := by decide +kernel
theorem dX6_arm_1 : decode cX6_arm 1 = .ok (.getfield 17, 3) := by decide +kernel
theorem dX6_arm_4 : decode cX6_arm 4 = .ok (.ifCond .eq 23, 3) := by decide +kernel
theorem dX6_arm_7 : decode cX6_arm 7 = .ok (.iload_n 1, 1) := by decide +kernel
theorem dX6_arm_8 : decode cX6_arm 8 = .ok (.ifCond .lt 19, 3) := by decide +kernel
theorem dX6_arm_11 : decode cX6_arm 11 = .ok (.iload_n 1, 1) := by decide +kernel
theorem dX6_arm_12 : decode cX6_arm 12 = .ok (.bipush 100, 2) := by decide +kernel
theorem dX6_arm_14 : decode cX6_arm 14 = .ok (.if_icmp .gt 13, 3) := by decide +kernel
theorem dX6_arm_17 : decode cX6_arm 17 = .ok (.iload_n 2, 1) := by decide +kernel
theorem dX6_arm_18 : decode cX6_arm 18 = .ok (.ifCond .lt 9, 3) := by decide +kernel
theorem dX6_arm_21 : decode cX6_arm 21 = .ok (.iload_n 2, 1) := by decide +kernel
theorem dX6_arm_22 : decode cX6_arm 22 = .ok (.bipush 63, 2) := by decide +kernel
theorem dX6_arm_24 : decode cX6_arm 24 = .ok (.if_icmp .le 5, 3) := by decide +kernel
theorem dX6_arm_27 : decode cX6_arm 27 = .ok (.iconst 0, 1) := by decide +kernel
theorem dX6_arm_28 : decode cX6_arm 28 = .ok (.ireturn, 1) := by decide +kernel
theorem dX6_arm_29 : decode cX6_arm 29 = .ok (.aload_n 0, 1) := by decide +kernel
theorem dX6_arm_30 : decode cX6_arm 30 = .ok (.iload_n 1, 1) := by decide +kernel
theorem dX6_arm_31 : decode cX6_arm 31 = .ok (.putfield 21, 3) := by decide +kernel
theorem dX6_arm_34 : decode cX6_arm 34 = .ok (.aload_n 0, 1) := by decide +kernel
theorem dX6_arm_35 : decode cX6_arm 35 = .ok (.iload_n 2, 1) := by decide +kernel
theorem dX6_arm_36 : decode cX6_arm 36 = .ok (.putfield 90, 3) := by decide +kernel
theorem dX6_arm_39 : decode cX6_arm 39 = .ok (.iconst 1, 1) := by decide +kernel
theorem dX6_arm_40 : decode cX6_arm 40 = .ok (.ireturn, 1) := by decide +kernel
theorem dX6_start_0 : decode cX6_start 0 = .ok (.aload_n 0, 1) := by decide +kernel
theorem dX6_start_1 : decode cX6_start 1 = .ok (.getfield 17, 3) := by decide +kernel
theorem dX6_start_4 : decode cX6_start 4 = .ok (.ifCond .eq 5, 3) := by decide +kernel
theorem dX6_start_7 : decode cX6_start 7 = .ok (.iconst (-1), 1) := by decide +kernel
theorem dX6_start_8 : decode cX6_start 8 = .ok (.ireturn, 1) := by decide +kernel
theorem dX6_start_9 : decode cX6_start 9 = .ok (.aload_n 0, 1) := by decide +kernel
theorem dX6_start_10 : decode cX6_start 10 = .ok (.iconst 0, 1) := by decide +kernel
theorem dX6_start_11 : decode cX6_start 11 = .ok (.invokevirtual 164, 3) := by decide +kernel
theorem dX6_first_0 : decode cX6_first 0 = .ok (.aload_n 0, 1) := by decide +kernel
theorem dX6_first_1 : decode cX6_first 1 = .ok (.getfield 17, 3) := by decide +kernel
theorem dX6_first_4 : decode cX6_first 4 = .ok (.ifCond .eq 10, 3) := by decide +kernel
theorem dX6_first_7 : decode cX6_first 7 = .ok (.aload_n 0, 1) := by decide +kernel
theorem dX6_first_8 : decode cX6_first 8 = .ok (.getfield 44, 3) := by decide +kernel
theorem dX6_first_11 : decode cX6_first 11 = .ok (.goto 5, 3) := by decide +kernel
theorem dX6_first_14 : decode cX6_first 14 = .ok (.bipush (-2), 2) := by decide +kernel
theorem dX6_first_16 : decode cX6_first 16 = .ok (.ireturn, 1) := by decide +kernel
theorem dX6_safe_0 : decode cX6_safe 0 = .ok (.aload_n 0, 1) := by decide +kernel
theorem dX6_safe_1 : decode cX6_safe 1 = .ok (.getfield 17, 3) := by decide +kernel
theorem dX6_safe_4 : decode cX6_safe 4 = .ok (.ifCond .eq 10, 3) := by decide +kernel
theorem dX6_safe_7 : decode cX6_safe 7 = .ok (.aload_n 0, 1) := by decide +kernel
theorem dX6_safe_8 : decode cX6_safe 8 = .ok (.getfield 115, 3) := by decide +kernel
theorem dX6_safe_11 : decode cX6_safe 11 = .ok (.goto 5, 3) := by decide +kernel
theorem dX6_safe_14 : decode cX6_safe 14 = .ok (.bipush (-2), 2) := by decide +kernel
theorem dX6_safe_16 : decode cX6_safe 16 = .ok (.ireturn, 1) := by decide +kernel
theorem dX6_size_0 : decode cX6_size 0 = .ok (.aload_n 0, 1) := by decide +kernel
theorem dX6_size_1 : decode cX6_size 1 = .ok (.getfield 17, 3) := by decide +kernel
theorem dX6_size_4 : decode cX6_size 4 = .ok (.ifCond .ne 6, 3) := by decide +kernel
theorem dX6_size_7 : decode cX6_size 7 = .ok (.bipush (-2), 2) := by decide +kernel
theorem dX6_size_9 : decode cX6_size 9 = .ok (.ireturn, 1) := by decide +kernel
theorem dX6_size_10 : decode cX6_size 10 = .ok (.iload_n 1, 1) := by decide +kernel
theorem dX6_size_11 : decode cX6_size 11 = .ok (.aload_n 0, 1) := by decide +kernel
theorem dX6_size_12 : decode cX6_size 12 = .ok (.getfield 44, 3) := by decide +kernel
theorem dX6_size_15 : decode cX6_size 15 = .ok (.if_icmp .lt 25, 3) := by decide +kernel
theorem dX6_size_18 : decode cX6_size 18 = .ok (.iload_n 1, 1) := by decide +kernel
theorem dX6_size_19 : decode cX6_size 19 = .ok (.aload_n 0, 1) := by decide +kernel
theorem dX6_size_20 : decode cX6_size 20 = .ok (.getfield 115, 3) := by decide +kernel
theorem dX6_size_23 : decode cX6_size 23 = .ok (.if_icmp .gt 17, 3) := by decide +kernel
theorem dX6_size_26 : decode cX6_size 26 = .ok (.aload_n 0, 1) := by decide +kernel
theorem dX6_size_27 : decode cX6_size 27 = .ok (.getfield 62, 3) := by decide +kernel
theorem dX6_size_30 : decode cX6_size 30 = .ok (.iload_n 1, 1) := by decide +kernel
theorem dX6_size_31 : decode cX6_size 31 = .ok (.aload_n 0, 1) := by decide +kernel
theorem dX6_size_32 : decode cX6_size 32 = .ok (.getfield 44, 3) := by decide +kernel
theorem dX6_size_35 : decode cX6_size 35 = .ok (.isub, 1) := by decide +kernel
theorem dX6_size_36 : decode cX6_size 36 = .ok (.iaload, 1) := by decide +kernel
theorem dX6_size_37 : decode cX6_size 37 = .ok (.goto 4, 3) := by decide +kernel
theorem dX6_size_40 : decode cX6_size 40 = .ok (.iconst (-1), 1) := by decide +kernel
theorem dX6_size_41 : decode cX6_size 41 = .ok (.ireturn, 1) := by decide +kernel
theorem dX6_at_0 : decode cX6_at 0 = .ok (.aload_n 0, 1) := by decide +kernel
theorem dX6_at_1 : decode cX6_at 1 = .ok (.getfield 17, 3) := by decide +kernel
theorem dX6_at_4 : decode cX6_at 4 = .ok (.ifCond .ne 6, 3) := by decide +kernel
theorem dX6_at_7 : decode cX6_at 7 = .ok (.bipush (-2), 2) := by decide +kernel
theorem dX6_at_9 : decode cX6_at 9 = .ok (.ireturn, 1) := by decide +kernel
theorem dX6_at_10 : decode cX6_at 10 = .ok (.iload_n 2, 1) := by decide +kernel
theorem dX6_at_11 : decode cX6_at 11 = .ok (.ifCond .lt 12, 3) := by decide +kernel
theorem dX6_at_14 : decode cX6_at 14 = .ok (.iload_n 2, 1) := by decide +kernel
theorem dX6_at_15 : decode cX6_at 15 = .ok (.aload_n 0, 1) := by decide +kernel
theorem dX6_at_16 : decode cX6_at 16 = .ok (.iload_n 1, 1) := by decide +kernel
theorem dX6_at_17 : decode cX6_at 17 = .ok (.invokevirtual 183, 3) := by decide +kernel
theorem dX6_at_20 : decode cX6_at 20 = .ok (.if_icmp .lt 5, 3) := by decide +kernel
theorem dX6_at_23 : decode cX6_at 23 = .ok (.iconst (-1), 1) := by decide +kernel
theorem dX6_at_24 : decode cX6_at 24 = .ok (.ireturn, 1) := by decide +kernel
theorem dX6_at_25 : decode cX6_at 25 = .ok (.iload_n 1, 1) := by decide +kernel
theorem dX6_at_26 : decode cX6_at 26 = .ok (.aload_n 0, 1) := by decide +kernel
theorem dX6_at_27 : decode cX6_at 27 = .ok (.getfield 44, 3) := by decide +kernel
theorem dX6_at_30 : decode cX6_at 30 = .ok (.isub, 1) := by decide +kernel
theorem dX6_at_31 : decode cX6_at 31 = .ok (.istore_n 3, 1) := by decide +kernel
theorem dX6_at_32 : decode cX6_at 32 = .ok (.aload_n 0, 1) := by decide +kernel
theorem dX6_at_33 : decode cX6_at 33 = .ok (.getfield 56, 3) := by decide +kernel
theorem dX6_at_36 : decode cX6_at 36 = .ok (.iload_n 3, 1) := by decide +kernel
theorem dX6_at_37 : decode cX6_at 37 = .ok (.iaload, 1) := by decide +kernel
theorem dX6_at_38 : decode cX6_at 38 = .ok (.istore 4, 2) := by decide +kernel
theorem dX6_at_40 : decode cX6_at 40 = .ok (.aload_n 0, 1) := by decide +kernel
theorem dX6_at_41 : decode cX6_at 41 = .ok (.getfield 59, 3) := by decide +kernel
theorem dX6_at_44 : decode cX6_at 44 = .ok (.iload_n 3, 1) := by decide +kernel
theorem dX6_at_45 : decode cX6_at 45 = .ok (.iaload, 1) := by decide +kernel
theorem dX6_at_46 : decode cX6_at 46 = .ok (.bipush 6, 2) := by decide +kernel
theorem dX6_at_48 : decode cX6_at 48 = .ok (.iadd, 1) := by decide +kernel
theorem dX6_at_49 : decode cX6_at 49 = .ok (.iload_n 2, 1) := by decide +kernel
theorem dX6_at_50 : decode cX6_at 50 = .ok (.iadd, 1) := by decide +kernel
theorem dX6_at_51 : decode cX6_at 51 = .ok (.istore 5, 2) := by decide +kernel
theorem dX6_at_53 : decode cX6_at 53 = .ok (.iload 5, 2) := by decide +kernel
theorem dX6_at_55 : decode cX6_at 55 = .ok (.aload_n 0, 1) := by decide +kernel
theorem dX6_at_56 : decode cX6_at 56 = .ok (.getfield 7, 3) := by decide +kernel
theorem dX6_at_59 : decode cX6_at 59 = .ok (.bipush 64, 2) := by decide +kernel
theorem dX6_at_61 : decode cX6_at 61 = .ok (.iload 4, 2) := by decide +kernel
theorem dX6_at_63 : decode cX6_at 63 = .ok (.imul, 1) := by decide +kernel
theorem dX6_at_64 : decode cX6_at 64 = .ok (.iconst 4, 1) := by decide +kernel
theorem dX6_at_65 : decode cX6_at 65 = .ok (.iadd, 1) := by decide +kernel
theorem dX6_at_66 : decode cX6_at 66 = .ok (.baload, 1) := by decide +kernel
theorem dX6_at_67 : decode cX6_at 67 = .ok (.sipush 255, 3) := by decide +kernel
theorem dX6_at_70 : decode cX6_at 70 = .ok (.iand, 1) := by decide +kernel
theorem dX6_at_71 : decode cX6_at 71 = .ok (.if_icmp .lt 34, 3) := by decide +kernel
theorem dX6_at_74 : decode cX6_at 74 = .ok (.iload 5, 2) := by decide +kernel
theorem dX6_at_76 : decode cX6_at 76 = .ok (.aload_n 0, 1) := by decide +kernel
theorem dX6_at_77 : decode cX6_at 77 = .ok (.getfield 7, 3) := by decide +kernel
theorem dX6_at_80 : decode cX6_at 80 = .ok (.bipush 64, 2) := by decide +kernel
theorem dX6_at_82 : decode cX6_at 82 = .ok (.iload 4, 2) := by decide +kernel
theorem dX6_at_84 : decode cX6_at 84 = .ok (.imul, 1) := by decide +kernel
theorem dX6_at_85 : decode cX6_at 85 = .ok (.iconst 4, 1) := by decide +kernel
theorem dX6_at_86 : decode cX6_at 86 = .ok (.iadd, 1) := by decide +kernel
theorem dX6_at_87 : decode cX6_at 87 = .ok (.baload, 1) := by decide +kernel
theorem dX6_at_88 : decode cX6_at 88 = .ok (.sipush 255, 3) := by decide +kernel
theorem dX6_at_91 : decode cX6_at 91 = .ok (.iand, 1) := by decide +kernel
theorem dX6_at_92 : decode cX6_at 92 = .ok (.isub, 1) := by decide +kernel
theorem dX6_at_93 : decode cX6_at 93 = .ok (.istore 5, 2) := by decide +kernel
theorem dX6_at_95 : decode cX6_at 95 = .ok (.iload 4, 2) := by decide +kernel
theorem dX6_at_97 : decode cX6_at 97 = .ok (.invokestatic 176, 3) := by decide +kernel
theorem dX6_at_100 : decode cX6_at 100 = .ok (.istore 4, 2) := by decide +kernel
theorem dX6_at_102 : decode cX6_at 102 = .ok (.goto (-49), 3) := by decide +kernel
theorem dX6_at_105 : decode cX6_at 105 = .ok (.aload_n 0, 1) := by decide +kernel
theorem dX6_at_106 : decode cX6_at 106 = .ok (.getfield 7, 3) := by decide +kernel
theorem dX6_at_109 : decode cX6_at 109 = .ok (.bipush 64, 2) := by decide +kernel
theorem dX6_at_111 : decode cX6_at 111 = .ok (.iload 4, 2) := by decide +kernel
theorem dX6_at_113 : decode cX6_at 113 = .ok (.imul, 1) := by decide +kernel
theorem dX6_at_114 : decode cX6_at 114 = .ok (.bipush 16, 2) := by decide +kernel
theorem dX6_at_116 : decode cX6_at 116 = .ok (.iadd, 1) := by decide +kernel
theorem dX6_at_117 : decode cX6_at 117 = .ok (.iload 5, 2) := by decide +kernel
theorem dX6_at_119 : decode cX6_at 119 = .ok (.iadd, 1) := by decide +kernel
theorem dX6_at_120 : decode cX6_at 120 = .ok (.baload, 1) := by decide +kernel
theorem dX6_at_121 : decode cX6_at 121 = .ok (.sipush 255, 3) := by decide +kernel
theorem dX6_at_124 : decode cX6_at 124 = .ok (.iand, 1) := by decide +kernel
theorem dX6_at_125 : decode cX6_at 125 = .ok (.ireturn, 1) := by decide +kernel
theorem dX6_isByte_0 : decode cX6_isByte 0 = .ok (.iload_n 0, 1) := by decide +kernel
theorem dX6_isByte_1 : decode cX6_isByte 1 = .ok (.ifCond .lt 23, 3) := by decide +kernel
theorem dX6_isByte_4 : decode cX6_isByte 4 = .ok (.iload_n 0, 1) := by decide +kernel
theorem dX6_isByte_5 : decode cX6_isByte 5 = .ok (.bipush 64, 2) := by decide +kernel
theorem dX6_isByte_7 : decode cX6_isByte 7 = .ok (.if_icmp .ge 17, 3) := by decide +kernel
theorem dX6_isByte_10 : decode cX6_isByte 10 = .ok (.iload_n 1, 1) := by decide +kernel
theorem dX6_isByte_11 : decode cX6_isByte 11 = .ok (.ifCond .lt 13, 3) := by decide +kernel
theorem dX6_isByte_14 : decode cX6_isByte 14 = .ok (.iload_n 1, 1) := by decide +kernel
theorem dX6_isByte_15 : decode cX6_isByte 15 = .ok (.bipush 64, 2) := by decide +kernel
theorem dX6_isByte_17 : decode cX6_isByte 17 = .ok (.if_icmp .ge 7, 3) := by decide +kernel
theorem dX6_isByte_20 : decode cX6_isByte 20 = .ok (.iconst 1, 1) := by decide +kernel
theorem dX6_isByte_21 : decode cX6_isByte 21 = .ok (.goto 4, 3) := by decide +kernel
theorem dX6_isByte_24 : decode cX6_isByte 24 = .ok (.iconst 0, 1) := by decide +kernel
theorem dX6_isByte_25 : decode cX6_isByte 25 = .ok (.ireturn, 1) := by decide +kernel
theorem dX6_disk_0 : decode cX6_disk 0 = .ok (.iload_n 1, 1) := by decide +kernel
theorem dX6_disk_1 : decode cX6_disk 1 = .ok (.iload_n 2, 1) := by decide +kernel
theorem dX6_disk_2 : decode cX6_disk 2 = .ok (.invokestatic 186, 3) := by decide +kernel
theorem dX6_disk_5 : decode cX6_disk 5 = .ok (.ifCond .eq 21, 3) := by decide +kernel
theorem dX6_disk_8 : decode cX6_disk 8 = .ok (.aload_n 0, 1) := by decide +kernel
theorem dX6_disk_9 : decode cX6_disk 9 = .ok (.getfield 7, 3) := by decide +kernel
theorem dX6_disk_12 : decode cX6_disk 12 = .ok (.bipush 64, 2) := by decide +kernel
theorem dX6_disk_14 : decode cX6_disk 14 = .ok (.iload_n 1, 1) := by decide +kernel
theorem dX6_disk_15 : decode cX6_disk 15 = .ok (.imul, 1) := by decide +kernel
theorem dX6_disk_16 : decode cX6_disk 16 = .ok (.iload_n 2, 1) := by decide +kernel
theorem dX6_disk_17 : decode cX6_disk 17 = .ok (.iadd, 1) := by decide +kernel
theorem dX6_disk_18 : decode cX6_disk 18 = .ok (.baload, 1) := by decide +kernel
theorem dX6_disk_19 : decode cX6_disk 19 = .ok (.sipush 255, 3) := by decide +kernel
theorem dX6_disk_22 : decode cX6_disk 22 = .ok (.iand, 1) := by decide +kernel
theorem dX6_disk_23 : decode cX6_disk 23 = .ok (.goto 4, 3) := by decide +kernel
theorem dX6_disk_26 : decode cX6_disk 26 = .ok (.iconst (-1), 1) := by decide +kernel
theorem dX6_disk_27 : decode cX6_disk 27 = .ok (.ireturn, 1) := by decide +kernel
theorem dX6_poke_0 : decode cX6_poke 0 = .ok (.aload_n 0, 1) := by decide +kernel
theorem dX6_poke_1 : decode cX6_poke 1 = .ok (.getfield 17, 3) := by decide +kernel
theorem dX6_poke_4 : decode cX6_poke 4 = .ok (.ifCond .ne 23, 3) := by decide +kernel
theorem dX6_poke_7 : decode cX6_poke 7 = .ok (.iload_n 1, 1) := by decide +kernel
theorem dX6_poke_8 : decode cX6_poke 8 = .ok (.iload_n 2, 1) := by decide +kernel
theorem dX6_poke_9 : decode cX6_poke 9 = .ok (.invokestatic 186, 3) := by decide +kernel
theorem dX6_poke_12 : decode cX6_poke 12 = .ok (.ifCond .eq 15, 3) := by decide +kernel
theorem dX6_poke_15 : decode cX6_poke 15 = .ok (.iload_n 3, 1) := by decide +kernel
theorem dX6_poke_16 : decode cX6_poke 16 = .ok (.iconst 1, 1) := by decide +kernel
theorem dX6_poke_17 : decode cX6_poke 17 = .ok (.if_icmp .lt 10, 3) := by decide +kernel
theorem dX6_poke_20 : decode cX6_poke 20 = .ok (.iload_n 3, 1) := by decide +kernel
theorem dX6_poke_21 : decode cX6_poke 21 = .ok (.sipush 255, 3) := by decide +kernel
theorem dX6_poke_24 : decode cX6_poke 24 = .ok (.if_icmp .le 5, 3) := by decide +kernel
theorem dX6_poke_27 : decode cX6_poke 27 = .ok (.iconst 0, 1) := by decide +kernel
theorem dX6_poke_28 : decode cX6_poke 28 = .ok (.ireturn, 1) := by decide +kernel
theorem dX6_poke_29 : decode cX6_poke 29 = .ok (.aload_n 0, 1) := by decide +kernel
theorem dX6_poke_30 : decode cX6_poke 30 = .ok (.getfield 7, 3) := by decide +kernel
theorem dX6_poke_33 : decode cX6_poke 33 = .ok (.bipush 64, 2) := by decide +kernel
theorem dX6_poke_35 : decode cX6_poke 35 = .ok (.iload_n 1, 1) := by decide +kernel
theorem dX6_poke_36 : decode cX6_poke 36 = .ok (.imul, 1) := by decide +kernel
theorem dX6_poke_37 : decode cX6_poke 37 = .ok (.iload_n 2, 1) := by decide +kernel
theorem dX6_poke_38 : decode cX6_poke 38 = .ok (.iadd, 1) := by decide +kernel
theorem dX6_poke_39 : decode cX6_poke 39 = .ok (.dup2, 1) := by decide +kernel
theorem dX6_poke_40 : decode cX6_poke 40 = .ok (.baload, 1) := by decide +kernel
theorem dX6_poke_41 : decode cX6_poke 41 = .ok (.iload_n 3, 1) := by decide +kernel
theorem dX6_poke_42 : decode cX6_poke 42 = .ok (.ixor, 1) := by decide +kernel
theorem dX6_poke_43 : decode cX6_poke 43 = .ok (.i2b, 1) := by decide +kernel
theorem dX6_poke_44 : decode cX6_poke 44 = .ok (.bastore, 1) := by decide +kernel
theorem dX6_poke_45 : decode cX6_poke 45 = .ok (.iconst 1, 1) := by decide +kernel
theorem dX6_poke_46 : decode cX6_poke 46 = .ok (.ireturn, 1) := by decide +kernel
theorem dX6_torn_0 : decode cX6_torn 0 = .ok (.iload_n 1, 1) := by decide +kernel
theorem dX6_torn_1 : decode cX6_torn 1 = .ok (.ifCond .lt 22, 3) := by decide +kernel
theorem dX6_torn_4 : decode cX6_torn 4 = .ok (.iload_n 1, 1) := by decide +kernel
theorem dX6_torn_5 : decode cX6_torn 5 = .ok (.bipush 64, 2) := by decide +kernel
theorem dX6_torn_7 : decode cX6_torn 7 = .ok (.if_icmp .ge 16, 3) := by decide +kernel
theorem dX6_torn_10 : decode cX6_torn 10 = .ok (.aload_n 0, 1) := by decide +kernel
theorem dX6_torn_11 : decode cX6_torn 11 = .ok (.getfield 13, 3) := by decide +kernel
theorem dX6_torn_14 : decode cX6_torn 14 = .ok (.iload_n 1, 1) := by decide +kernel
theorem dX6_torn_15 : decode cX6_torn 15 = .ok (.baload, 1) := by decide +kernel
theorem dX6_torn_16 : decode cX6_torn 16 = .ok (.ifCond .eq 7, 3) := by decide +kernel
theorem dX6_torn_19 : decode cX6_torn 19 = .ok (.iconst 1, 1) := by decide +kernel
theorem dX6_torn_20 : decode cX6_torn 20 = .ok (.goto 4, 3) := by decide +kernel
theorem dX6_torn_23 : decode cX6_torn 23 = .ok (.iconst 0, 1) := by decide +kernel
theorem dX6_torn_24 : decode cX6_torn 24 = .ok (.ireturn, 1) := by decide +kernel
theorem dX6_count_0 : decode cX6_count 0 = .ok (.iload_n 1, 1) := by decide +kernel
theorem dX6_count_1 : decode cX6_count 1 = .ok (.tableswitch 208 0 9 #[55, 68, 85, 102, 119, 136, 153, 158, 163, 191], 55) := by decide +kernel
theorem dX6_count_56 : decode cX6_count 56 = .ok (.aload_n 0, 1) := by decide +kernel
theorem dX6_count_57 : decode cX6_count 57 = .ok (.getfield 17, 3) := by decide +kernel
theorem dX6_count_60 : decode cX6_count 60 = .ok (.ifCond .eq 7, 3) := by decide +kernel
theorem dX6_count_63 : decode cX6_count 63 = .ok (.iconst 1, 1) := by decide +kernel
theorem dX6_count_64 : decode cX6_count 64 = .ok (.goto 4, 3) := by decide +kernel
theorem dX6_count_67 : decode cX6_count 67 = .ok (.iconst 0, 1) := by decide +kernel
theorem dX6_count_68 : decode cX6_count 68 = .ok (.ireturn, 1) := by decide +kernel
theorem dX6_count_69 : decode cX6_count 69 = .ok (.aload_n 0, 1) := by decide +kernel
theorem dX6_count_70 : decode cX6_count 70 = .ok (.getfield 17, 3) := by decide +kernel
theorem dX6_count_73 : decode cX6_count 73 = .ok (.ifCond .eq 10, 3) := by decide +kernel
theorem dX6_count_76 : decode cX6_count 76 = .ok (.aload_n 0, 1) := by decide +kernel
theorem dX6_count_77 : decode cX6_count 77 = .ok (.getfield 102, 3) := by decide +kernel
theorem dX6_count_80 : decode cX6_count 80 = .ok (.goto 5, 3) := by decide +kernel
theorem dX6_count_83 : decode cX6_count 83 = .ok (.bipush (-2), 2) := by decide +kernel
theorem dX6_count_85 : decode cX6_count 85 = .ok (.ireturn, 1) := by decide +kernel
theorem dX6_count_86 : decode cX6_count 86 = .ok (.aload_n 0, 1) := by decide +kernel
theorem dX6_count_87 : decode cX6_count 87 = .ok (.getfield 17, 3) := by decide +kernel
theorem dX6_count_90 : decode cX6_count 90 = .ok (.ifCond .eq 10, 3) := by decide +kernel
theorem dX6_count_93 : decode cX6_count 93 = .ok (.aload_n 0, 1) := by decide +kernel
theorem dX6_count_94 : decode cX6_count 94 = .ok (.getfield 99, 3) := by decide +kernel
theorem dX6_count_97 : decode cX6_count 97 = .ok (.goto 5, 3) := by decide +kernel
theorem dX6_count_100 : decode cX6_count 100 = .ok (.bipush (-2), 2) := by decide +kernel
theorem dX6_count_102 : decode cX6_count 102 = .ok (.ireturn, 1) := by decide +kernel
theorem dX6_count_103 : decode cX6_count 103 = .ok (.aload_n 0, 1) := by decide +kernel
theorem dX6_count_104 : decode cX6_count 104 = .ok (.getfield 17, 3) := by decide +kernel
theorem dX6_count_107 : decode cX6_count 107 = .ok (.ifCond .eq 10, 3) := by decide +kernel
theorem dX6_count_110 : decode cX6_count 110 = .ok (.aload_n 0, 1) := by decide +kernel
theorem dX6_count_111 : decode cX6_count 111 = .ok (.invokevirtual 111, 3) := by decide +kernel
theorem dX6_count_114 : decode cX6_count 114 = .ok (.goto 5, 3) := by decide +kernel
theorem dX6_count_117 : decode cX6_count 117 = .ok (.bipush (-2), 2) := by decide +kernel
theorem dX6_count_119 : decode cX6_count 119 = .ok (.ireturn, 1) := by decide +kernel
theorem dX6_count_120 : decode cX6_count 120 = .ok (.aload_n 0, 1) := by decide +kernel
theorem dX6_count_121 : decode cX6_count 121 = .ok (.getfield 17, 3) := by decide +kernel
theorem dX6_count_124 : decode cX6_count 124 = .ok (.ifCond .eq 10, 3) := by decide +kernel
theorem dX6_count_127 : decode cX6_count 127 = .ok (.aload_n 0, 1) := by decide +kernel
theorem dX6_count_128 : decode cX6_count 128 = .ok (.getfield 50, 3) := by decide +kernel
theorem dX6_count_131 : decode cX6_count 131 = .ok (.goto 5, 3) := by decide +kernel
theorem dX6_count_134 : decode cX6_count 134 = .ok (.bipush (-2), 2) := by decide +kernel
theorem dX6_count_136 : decode cX6_count 136 = .ok (.ireturn, 1) := by decide +kernel
theorem dX6_count_137 : decode cX6_count 137 = .ok (.aload_n 0, 1) := by decide +kernel
theorem dX6_count_138 : decode cX6_count 138 = .ok (.getfield 17, 3) := by decide +kernel
theorem dX6_count_141 : decode cX6_count 141 = .ok (.ifCond .eq 10, 3) := by decide +kernel
theorem dX6_count_144 : decode cX6_count 144 = .ok (.aload_n 0, 1) := by decide +kernel
theorem dX6_count_145 : decode cX6_count 145 = .ok (.getfield 53, 3) := by decide +kernel
theorem dX6_count_148 : decode cX6_count 148 = .ok (.goto 5, 3) := by decide +kernel
theorem dX6_count_151 : decode cX6_count 151 = .ok (.bipush (-2), 2) := by decide +kernel
theorem dX6_count_153 : decode cX6_count 153 = .ok (.ireturn, 1) := by decide +kernel
theorem dX6_count_154 : decode cX6_count 154 = .ok (.aload_n 0, 1) := by decide +kernel
theorem dX6_count_155 : decode cX6_count 155 = .ok (.getfield 96, 3) := by decide +kernel
theorem dX6_count_158 : decode cX6_count 158 = .ok (.ireturn, 1) := by decide +kernel
theorem dX6_count_159 : decode cX6_count 159 = .ok (.aload_n 0, 1) := by decide +kernel
theorem dX6_count_160 : decode cX6_count 160 = .ok (.getfield 132, 3) := by decide +kernel
theorem dX6_count_163 : decode cX6_count 163 = .ok (.ireturn, 1) := by decide +kernel
theorem dX6_count_164 : decode cX6_count 164 = .ok (.aload_n 0, 1) := by decide +kernel
theorem dX6_count_165 : decode cX6_count 165 = .ok (.getfield 17, 3) := by decide +kernel
theorem dX6_count_168 : decode cX6_count 168 = .ok (.ifCond .ne 8, 3) := by decide +kernel
theorem dX6_count_171 : decode cX6_count 171 = .ok (.bipush (-2), 2) := by decide +kernel
theorem dX6_count_173 : decode cX6_count 173 = .ok (.goto 18, 3) := by decide +kernel
theorem dX6_count_176 : decode cX6_count 176 = .ok (.aload_n 0, 1) := by decide +kernel
theorem dX6_count_177 : decode cX6_count 177 = .ok (.getfield 102, 3) := by decide +kernel
theorem dX6_count_180 : decode cX6_count 180 = .ok (.ifCond .ne 7, 3) := by decide +kernel
theorem dX6_count_183 : decode cX6_count 183 = .ok (.iconst (-1), 1) := by decide +kernel
theorem dX6_count_184 : decode cX6_count 184 = .ok (.goto 7, 3) := by decide +kernel
theorem dX6_count_187 : decode cX6_count 187 = .ok (.aload_n 0, 1) := by decide +kernel
theorem dX6_count_188 : decode cX6_count 188 = .ok (.getfield 105, 3) := by decide +kernel
theorem dX6_count_191 : decode cX6_count 191 = .ok (.ireturn, 1) := by decide +kernel
theorem dX6_count_192 : decode cX6_count 192 = .ok (.aload_n 0, 1) := by decide +kernel
theorem dX6_count_193 : decode cX6_count 193 = .ok (.getfield 17, 3) := by decide +kernel
theorem dX6_count_196 : decode cX6_count 196 = .ok (.ifCond .eq 10, 3) := by decide +kernel
theorem dX6_count_199 : decode cX6_count 199 = .ok (.aload_n 0, 1) := by decide +kernel
theorem dX6_count_200 : decode cX6_count 200 = .ok (.getfield 38, 3) := by decide +kernel
theorem dX6_count_203 : decode cX6_count 203 = .ok (.goto 5, 3) := by decide +kernel
theorem dX6_count_206 : decode cX6_count 206 = .ok (.bipush (-2), 2) := by decide +kernel
theorem dX6_count_208 : decode cX6_count 208 = .ok (.ireturn, 1) := by decide +kernel
theorem dX6_count_209 : decode cX6_count 209 = .ok (.iconst (-1), 1) := by decide +kernel
theorem dX6_count_210 : decode cX6_count 210 = .ok (.ireturn, 1) := by decide +kernel
end
section
/-! ===== the world as a map from addresses to cells ===== -/
/-- the heap holds what the map says, all of it within A -/
def mm_W (D : va_G) (A : Nat → Prop) (M : Nat → Option va_E) (H : Heap) : Prop := ∃ ws : va_W, va_P D vwCl ws H ∧ va_D A ws ∧ ∀ (a : Nat) (e : va_E), M a = some e → ∃ k : Nat, ws[k]? = some (a, e)
/-- the array classes: of int, of Sector, of byte, of boolean -/
abbrev mm_T (cI cS cB cZ : ClassId) : List (ClassId × FieldType) := [(cI, .int), (cS, .object RX3), (cB, .byte), (cZ, .boolean)]
/-- the fields of nest mates that GroupLog reads or writes from outside -/
def mm_NF : List (Nat × String × String × String) := [(102, "GroupLog$Queue", "waited", "I"), (105, "GroupLog$Log", "keptFrom", "I"), (114, "GroupLog$Log", "nextSerial", "I"), (131, "GroupLog$Store", "stepsLeft", "I"), (134, "GroupLog$Store", "part", "I"), (153, "GroupLog$Log", "firstRecord", "I"), (178, "GroupLog$Sector", "isTorn", "Z"), (181, "GroupLog$Store", "steps", "I"), (187, "GroupLog$Log", "nextPlace", "I"), (82, "GroupLog$Log", "used", "I"), (85, "GroupLog$Log", "lastSafe", "I"), (88, "GroupLog$Queue", "records", "I"), (95, "GroupLog$Queue", "length", "I")]
abbrev mm_nc (q : Nat × String × String × String) : Cond := .fieldLinkNest "GroupLog" q.1 q.2.1 q.2.2.1 q.2.2.2 "GroupLog"
/-- what a method's start says of the tables: classes, array classes, nest mates' fields, arrays over Sector -/
def mm_K (D : va_G) (tys : List (ClassId × FieldType)) (U : State) : Prop := va_K D vwCl tys U ∧ (∀ q ∈ mm_NF, va_Nw (mm_nc q) U) ∧ va_AO RX3 U
theorem mm_K.warm {D : va_G} {tys : List (ClassId × FieldType)} {s U : State} (h : mm_K D tys s) (hW : s.WarmedH U.vm) : mm_K D tys U := ⟨va_K.moved hW.alike h.1, fun q hq => va_Nw.warmF hW (h.2.1 q hq), va_AO.moved hW.alike h.2.2⟩
theorem mm_K.same {D : va_G} {tys : List (ClassId × FieldType)} {s U : State} (h : mm_K D tys s) (hv : s.vm = U.vm) : mm_K D tys U := ⟨va_K.moved (by rw [hv]; exact Vm.Alike.refl _) h.1, fun q hq => va_Nw.same rfl hv (h.2.1 q hq), va_AO.moved (by rw [hv]; exact Vm.Alike.refl _) h.2.2⟩
/-- a method's start -/
def mm_Pc (D : va_G) (A : Nat → Prop) (tys : List (ClassId × FieldType)) (M : Nat → Option va_E) (sz : Nat) (av : List Value) : Array Value → State → Prop := va_Pc av (fun U => U.heap.size = sz ∧ mm_W D A M U.heap ∧ mm_K D tys U)
theorem mm_blind (D : va_G) (A : Nat → Prop) (tys : List (ClassId × FieldType)) (M : Nat → Option va_E) (sz : Nat) (av : List Value) : FrameBlind (mm_Pc D A tys M sz av) := fun a U g mk q => by
  obtain ⟨q0, q1, qM, qK⟩ := q
  exact ⟨q0, q1, qM, mm_K.same (s := U) (U := U.calling g mk a) qK rfl⟩
theorem mm_pre {D : va_G} {A : Nat → Prop} {tys : List (ClassId × FieldType)} {M : Nat → Option va_E} {H : Heap} {s : State} (av : List Value) (hM : mm_W D A M H) (hK : mm_K D tys s) : ∀ U : State, U.heap = H → s.WarmedH U.vm → mm_Pc D A tys M H.size av av.toArray U := fun U hU hW => ⟨rfl, by rw [hU], by rw [hU]; exact hM, hK.warm hW⟩
theorem mm_ne {M : Nat → Option va_E} {a b : Nat} {e1 e2 : va_E} (h1 : M a = some e1) (h2 : M b = some e2) (h : e1 ≠ e2) : a ≠ b := fun e => h (by rw [e, h2] at h1; exact (Option.some.inj h1).symm)
theorem mm_nn {M : Nat → Option va_E} {a b : Nat} {e1 : va_E} (h1 : M a = some e1) (h2 : M b = none) : a ≠ b := fun e => by rw [e, h2] at h1; cases h1
theorem mm_oo {c d : Nat} {x y : List Value} (h : c ≠ d) : (Sum.inr (c, x) : va_E) ≠ .inr (d, y) := fun e => h (by injection e with e; injection e)
theorem mm_oa {c : Nat} {x : List Value} {y : ClassId × vp_A} : (Sum.inr (c, x) : va_E) ≠ .inl y := fun e => by cases e
theorem mm_ao {c : Nat} {x : List Value} {y : ClassId × vp_A} : (Sum.inl y : va_E) ≠ .inr (c, x) := fun e => by cases e
theorem mm_an {c d : ClassId} {n k : Nat} {f g} (h : n ≠ k) : (Sum.inl (c, n, f) : va_E) ≠ .inl (d, k, g) := fun e => h (by injection e with e; injection e with _ e; injection e)
theorem mm_set {D : va_G} {A : Nat → Prop} {M : Nat → Option va_E} {H1 : Heap} {ws : va_W} {k a : Nat} {e0 e : va_E} (hw : ∀ (a : Nat) (e : va_E), M a = some e → ∃ k : Nat, ws[k]? = some (a, e)) (hk : ws[k]? = some (a, e0)) (hP1 : va_P D vwCl (ws.set k (a, e)) H1) (hD1 : va_D A (ws.set k (a, e))) : ∃ M1 : Nat → Option va_E, mm_W D A M1 H1 ∧ M1 a = some e ∧ ∀ b, b ≠ a → M1 b = M b := by
  refine ⟨va_up M a (some e), ⟨_, hP1, hD1, fun b x hb => ?_⟩, va_up_self _ _ _, fun b h => va_up_ne _ _ h⟩
  have hlt : k < ws.length := (List.getElem?_eq_some_iff.mp hk).1
  by_cases h : b = a
  · subst h
    rw [va_up_self] at hb
    cases hb
    exact ⟨k, by simp [hlt]⟩
  · rw [va_up_ne _ _ h] at hb
    obtain ⟨j, hj⟩ := hw b x hb
    refine ⟨j, ?_⟩
    have hjk : k ≠ j := fun q => h (by
      rw [← q, hk] at hj
      have := Option.some.inj hj
      injection this with q1 q2
      exact q1.symm)
    rw [List.getElem?_set_ne hjk]
    exact hj
theorem mm_push {D : va_G} {A : Nat → Prop} {M : Nat → Option va_E} {H1 : Heap} {ws : va_W} {q : Nat} {e : va_E} (hw : ∀ (a : Nat) (e : va_E), M a = some e → ∃ k : Nat, ws[k]? = some (a, e)) (hP1 : va_P D vwCl (ws ++ [(q, e)]) H1) (hD1 : va_D A (ws ++ [(q, e)])) : ∃ M1 : Nat → Option va_E, mm_W D A M1 H1 ∧ M1 q = some e ∧ M q = none ∧ ∀ b, b ≠ q → M1 b = M b := by
  refine ⟨va_up M q (some e), ⟨_, hP1, hD1, fun b x hb => ?_⟩, va_up_self _ _ _, ?_, fun b h => va_up_ne _ _ h⟩
  · by_cases h : b = q
    · subst h
      rw [va_up_self] at hb
      cases hb
      exact ⟨ws.length, by simp⟩
    · rw [va_up_ne _ _ h] at hb
      obtain ⟨j, hj⟩ := hw b x hb
      exact ⟨j, by rw [List.getElem?_append_left (List.getElem?_eq_some_iff.mp hj).1]; exact hj⟩
  · cases hq : M q with
    | none => rfl
    | some x =>
      obtain ⟨j, hj⟩ := hw q x hq
      have hlt := (List.getElem?_eq_some_iff.mp hj).1
      have := hD1.1 j ws.length (q, x) (q, e) (by rw [List.getElem?_append_left hlt]; exact hj) (by simp) rfl
      omega
/-- the same world told by fewer cells, or by cells that are the same on the heap -/
theorem mm_W.less {D : va_G} {A : Nat → Prop} {M M1 : Nat → Option va_E} {H : Heap} (h : mm_W D A M H) (hl : ∀ a e, M1 a = some e → M a = some e) : mm_W D A M1 H := by
  obtain ⟨ws, hP, hD, hw⟩ := h
  exact ⟨ws, hP, hD, fun a e he => hw a e (hl a e he)⟩
theorem mm_W.lt {D : va_G} {A : Nat → Prop} {M : Nat → Option va_E} {H : Heap} (h : mm_W D A M H) {a : Nat} {e : va_E} (he : M a = some e) : a < H.size ∧ A a := by
  obtain ⟨ws, hP, hD, hw⟩ := h
  obtain ⟨k, hk⟩ := hw a e he
  exact ⟨(hP k _ hk).lt, hD.2 k _ hk⟩
/-- an array of ints: only what stands within its length counts -/
theorem mm_W.ext {D : va_G} {A : Nat → Prop} {M : Nat → Option va_E} {H : Heap} {a n : Nat} {cA : ClassId} {f : Nat → Int32} (h : mm_W D A M H) (ha : M a = some (.inl (cA, n, .inl f))) (g : Nat → Int32) (hg : ∀ k, k < n → f k = g k) : ∃ M1 : Nat → Option va_E, mm_W D A M1 H ∧ M1 a = some (.inl (cA, n, .inl g)) ∧ ∀ b, b ≠ a → M1 b = M b := by
  obtain ⟨ws, hP, hD, hw⟩ := h
  obtain ⟨k, hk⟩ := hw _ _ ha
  have hc : vp_cell cA (n, .inl f) = vp_cell cA (n, .inl g) := by
    rw [vp_cell_i, vp_cell_i]
    unfold arrV
    congr 1
    apply Array.ext
    · simp
    · intro i h1 h2
      simp at h1 ⊢
      exact hg i (by simpa using h1)
  refine mm_set (e := .inl (cA, n, .inl g)) hw hk (hP.set hD hk ?_ (fun q _ => rfl)) (hD.set hk)
  show H[a]? = some (vp_cell _ _)
  rw [← hc]
  exact hP k _ hk
section MMR
variable {p : Program} {l : Launch} {e : Env} {R : Room} {s : State} {m : MethodId} {args : Array Value} {below : List Frame} {meth : Method} {c : Code} {H : Heap} {locs : List Loc} {cells slots : Nat} {Q : State → Prop}
variable {cc : ByteArray} {pc : Nat} {ls : Array Slot} {rest : List Value} {D : va_G} {A : Nat → Prop} {a : Nat} {tys : List (ClassId × FieldType)} {M : Nat → Option va_E} {H0 : Heap}

theorem mm_get (hexec : p.tables.exec = Jvm.exec) (hb : c.code = cc) {own C : String} {T : u_T} {N ci index : Nat} {Ts : List Cond} (hts : ∀ w ∈ Ts, w.before args s = true) (hin : ∀ w ∈ u_ws C T N, w ∈ Ts) (hown : s.vm.findClass own = some m.cls) (hK : mm_K D tys s) (hM : mm_W D A M H) {fs : List Value} (he : M a = some (.inr (ci, fs))) (hc : vwCl[ci]? = some (C, T, N)) (k : Nat) (hk : k < N) (hlink : (Cond.fieldLink own index (T k).1 (T k).2.1 (T k).2.2.1).before args s = true) {v : Value} (hv : fs[k]? = some v) (hdg : decode cc pc = .ok (.getfield index, 3))
    (kk : W p l e R s m args below meth c H locs cells slots Q (F0 m (pc + 3) ls (v :: rest))) : W p l e R s m args below meth c H locs cells slots Q (F0 m pc ls (.ref a :: rest)) := by
  obtain ⟨ws, hP, hD, hw⟩ := hM
  obtain ⟨q0, hq⟩ := hw _ _ he
  exact va_get hexec hb hts hin hown hK.1 hP q0 hq hc k hk hlink (fun _ h => h) hv hdg kk
theorem mm_getN (hexec : p.tables.exec = Jvm.exec) (hb : c.code = cc) {own C : String} {T : u_T} {N ci index : Nat} {Ts : List Cond} (hts : ∀ w ∈ Ts, w.before args s = true) (hin : ∀ w ∈ u_ws C T N, w ∈ Ts) (hown : s.vm.findClass own = some m.cls) (hK : mm_K D tys s) (hM : mm_W D A M H) {fs : List Value} (he : M a = some (.inr (ci, fs))) (hc : vwCl[ci]? = some (C, T, N)) (k : Nat) (hk : k < N) (hlink : va_Nw (.fieldLinkNest own index (T k).1 (T k).2.1 (T k).2.2.1 "GroupLog") s) {v : Value} (hv : fs[k]? = some v) (hdg : decode cc pc = .ok (.getfield index, 3))
    (kk : W p l e R s m args below meth c H locs cells slots Q (F0 m (pc + 3) ls (v :: rest))) : W p l e R s m args below meth c H locs cells slots Q (F0 m pc ls (.ref a :: rest)) := by
  obtain ⟨ws, hP, hD, hw⟩ := hM
  obtain ⟨q0, hq⟩ := hw _ _ he
  exact va_getN hexec hb hts hin hown hK.1 hP q0 hq hc k hk (va_Nw.use rfl hlink) (fun _ h => h) hv hdg kk
theorem mm_put (hexec : p.tables.exec = Jvm.exec) (hb : c.code = cc) {own C : String} {T : u_T} {N ci index : Nat} {Ts : List Cond} (hts : ∀ w ∈ Ts, w.before args s = true) (hin : ∀ w ∈ u_ws C T N, w ∈ Ts) (ty0 : Nat → FieldType) (hty : ∀ k, k < N → parseFieldDescriptor (T k).2.2.1 = some (ty0 k)) (hnm : ∀ a, a < N → ∀ b, b < N → a ≠ b → (T a).2.1 ≠ (T b).2.1) (hown : s.vm.findClass own = some m.cls) (hK : mm_K D tys s) (hM : mm_W D A M H) (hS : va_S A H0 H locs) {fs : List Value} (he : M a = some (.inr (ci, fs))) (hc : vwCl[ci]? = some (C, T, N)) (k : Nat) (hk : k < N) (hlink : (Cond.fieldLink own index (T k).1 (T k).2.1 (T k).2.2.1).before args s = true) (hfin : (T k).2.2.2 = false) {v : Value} (hn : narrow (ty0 k) v = v) (hfit : fits (ty0 k) v = true) (hl : k < fs.length) (hdg : decode cc pc = .ok (.putfield index, 3))
    (kk : ∀ (H1 : Heap) (locs1 : List Loc) (M1 : Nat → Option va_E), mm_W D A M1 H1 → M1 a = some (.inr (ci, fs.set k v)) → (∀ b, b ≠ a → M1 b = M b) → va_S A H0 H1 locs1 → W p l e R s m args below meth c H1 locs1 cells slots Q (F0 m (pc + 3) ls rest)) : W p l e R s m args below meth c H locs cells slots Q (F0 m pc ls (v :: .ref a :: rest)) := by
  obtain ⟨ws, hP, hD, hw⟩ := hM
  obtain ⟨q0, hq⟩ := hw _ _ he
  refine va_put hexec hb hts hin ty0 hty hnm hown hK.1 hP hD hS q0 hq hc k hk hlink (fun _ h => h) hfin (hty k hk) hn hfit hl hdg (fun H1 locs1 hP1 hD1 hS1 => ?_)
  obtain ⟨M1, g1, g2, g3⟩ := mm_set hw hq hP1 hD1
  exact kk H1 locs1 M1 g1 g2 g3 hS1
theorem mm_putF (hexec : p.tables.exec = Jvm.exec) (hb : c.code = cc) {own C : String} {T : u_T} {N ci index : Nat} {Ts : List Cond} (hts : ∀ w ∈ Ts, w.before args s = true) (hin : ∀ w ∈ u_ws C T N, w ∈ Ts) (ty0 : Nat → FieldType) (hty : ∀ k, k < N → parseFieldDescriptor (T k).2.2.1 = some (ty0 k)) (hnm : ∀ a, a < N → ∀ b, b < N → a ≠ b → (T a).2.1 ≠ (T b).2.1) (hown : s.vm.findClass own = some m.cls) (hK : mm_K D tys s) (hM : mm_W D A M H) (hS : va_S A H0 H locs) {fs : List Value} (he : M a = some (.inr (ci, fs))) (hc : vwCl[ci]? = some (C, T, N)) (k : Nat) (hk : k < N) (hlink : (Cond.fieldLink own index (T k).1 (T k).2.1 (T k).2.2.1).before args s = true) (hfin : (T k).2.2.2 = true) (hin2 : meth.name = "<init>") (hdecl : (T k).1 = own) {v : Value} (hn : narrow (ty0 k) v = v) (hfit : fits (ty0 k) v = true) (hl : k < fs.length) (hdg : decode cc pc = .ok (.putfield index, 3))
    (kk : ∀ (H1 : Heap) (locs1 : List Loc) (M1 : Nat → Option va_E), mm_W D A M1 H1 → M1 a = some (.inr (ci, fs.set k v)) → (∀ b, b ≠ a → M1 b = M b) → va_S A H0 H1 locs1 → W p l e R s m args below meth c H1 locs1 cells slots Q (F0 m (pc + 3) ls rest)) : W p l e R s m args below meth c H locs cells slots Q (F0 m pc ls (v :: .ref a :: rest)) := by
  obtain ⟨ws, hP, hD, hw⟩ := hM
  obtain ⟨q0, hq⟩ := hw _ _ he
  refine va_putF hexec hb hts hin ty0 hty hnm hown hK.1 hP hD hS q0 hq hc k hk hlink (fun _ h => h) hfin hin2 hdecl (hty k hk) hn hfit hl hdg (fun H1 locs1 hP1 hD1 hS1 => ?_)
  obtain ⟨M1, g1, g2, g3⟩ := mm_set hw hq hP1 hD1
  exact kk H1 locs1 M1 g1 g2 g3 hS1
theorem mm_putN (hexec : p.tables.exec = Jvm.exec) (hb : c.code = cc) {own C : String} {T : u_T} {N ci index : Nat} {Ts : List Cond} (hts : ∀ w ∈ Ts, w.before args s = true) (hin : ∀ w ∈ u_ws C T N, w ∈ Ts) (ty0 : Nat → FieldType) (hty : ∀ k, k < N → parseFieldDescriptor (T k).2.2.1 = some (ty0 k)) (hnm : ∀ a, a < N → ∀ b, b < N → a ≠ b → (T a).2.1 ≠ (T b).2.1) (hown : s.vm.findClass own = some m.cls) (hK : mm_K D tys s) (hM : mm_W D A M H) (hS : va_S A H0 H locs) {fs : List Value} (he : M a = some (.inr (ci, fs))) (hc : vwCl[ci]? = some (C, T, N)) (k : Nat) (hk : k < N) (hlink : va_Nw (.fieldLinkNest own index (T k).1 (T k).2.1 (T k).2.2.1 "GroupLog") s) (hfin : (T k).2.2.2 = false) {v : Value} (hn : narrow (ty0 k) v = v) (hfit : fits (ty0 k) v = true) (hl : k < fs.length) (hdg : decode cc pc = .ok (.putfield index, 3))
    (kk : ∀ (H1 : Heap) (locs1 : List Loc) (M1 : Nat → Option va_E), mm_W D A M1 H1 → M1 a = some (.inr (ci, fs.set k v)) → (∀ b, b ≠ a → M1 b = M b) → va_S A H0 H1 locs1 → W p l e R s m args below meth c H1 locs1 cells slots Q (F0 m (pc + 3) ls rest)) : W p l e R s m args below meth c H locs cells slots Q (F0 m pc ls (v :: .ref a :: rest)) := by
  obtain ⟨ws, hP, hD, hw⟩ := hM
  obtain ⟨q0, hq⟩ := hw _ _ he
  refine va_putN hexec hb hts hin ty0 hty hnm hown hK.1 hP hD hS q0 hq hc k hk (va_Nw.use rfl hlink) (fun _ h => h) hfin (hty k hk) hn hfit hl hdg (fun H1 locs1 hP1 hD1 hS1 => ?_)
  obtain ⟨M1, g1, g2, g3⟩ := mm_set hw hq hP1 hD1
  exact kk H1 locs1 M1 g1 g2 g3 hS1
theorem mm_iald (hexec : p.tables.exec = Jvm.exec) (hb : c.code = cc) (hK : mm_K D tys s) (hM : mm_W D A M H) (t0 : Nat) {cA : ClassId} {n : Nat} {f : Nat → Int32} (he : M a = some (.inl (cA, n, .inl f))) (ht : tys[t0]? = some (cA, .int)) {i : Int32} {j : Nat} (hi : i = nI j) (hj : j < n) (hn : n < 2 ^ 31) (hdg : decode cc pc = .ok (.iaload, 1))
    (kk : W p l e R s m args below meth c H locs cells slots Q (F0 m (pc + 1) ls (.int (f j) :: rest))) : W p l e R s m args below meth c H locs cells slots Q (F0 m pc ls (.int i :: .ref a :: rest)) := by
  obtain ⟨ws, hP, hD, hw⟩ := hM
  obtain ⟨q0, hq⟩ := hw _ _ he
  subst hi
  refine va_iald hexec hb hK.1 hP q0 t0 hq ht (vp_in_nI hj hn) hdg ?_
  rw [nI_clamp (by omega)]
  exact kk
theorem mm_bald (hexec : p.tables.exec = Jvm.exec) (hb : c.code = cc) (hK : mm_K D tys s) (hM : mm_W D A M H) (t0 : Nat) {cA : ClassId} {n : Nat} {f : Nat → Int32} (he : M a = some (.inl (cA, n, .inl f))) (ht : tys[t0]? = some (cA, .byte)) {i : Int32} {j : Nat} (hi : i = nI j) (hj : j < n) (hn : n < 2 ^ 31) (hdg : decode cc pc = .ok (.baload, 1))
    (kk : W p l e R s m args below meth c H locs cells slots Q (F0 m (pc + 1) ls (.int (f j) :: rest))) : W p l e R s m args below meth c H locs cells slots Q (F0 m pc ls (.int i :: .ref a :: rest)) := by
  obtain ⟨ws, hP, hD, hw⟩ := hM
  obtain ⟨q0, hq⟩ := hw _ _ he
  subst hi
  refine va_bald hexec hb hK.1 hP q0 t0 hq ht (vp_in_nI hj hn) hdg ?_
  rw [nI_clamp (by omega)]
  exact kk
theorem mm_zald (hexec : p.tables.exec = Jvm.exec) (hb : c.code = cc) (hK : mm_K D tys s) (hM : mm_W D A M H) (t0 : Nat) {cA : ClassId} {n : Nat} {f : Nat → Int32} (he : M a = some (.inl (cA, n, .inl f))) (ht : tys[t0]? = some (cA, .boolean)) {i : Int32} {j : Nat} (hi : i = nI j) (hj : j < n) (hn : n < 2 ^ 31) (hdg : decode cc pc = .ok (.baload, 1))
    (kk : W p l e R s m args below meth c H locs cells slots Q (F0 m (pc + 1) ls (.int (f j) :: rest))) : W p l e R s m args below meth c H locs cells slots Q (F0 m pc ls (.int i :: .ref a :: rest)) := by
  obtain ⟨ws, hP, hD, hw⟩ := hM
  obtain ⟨q0, hq⟩ := hw _ _ he
  subst hi
  refine va_zald hexec hb hK.1 hP q0 t0 hq ht (vp_in_nI hj hn) hdg ?_
  rw [nI_clamp (by omega)]
  exact kk
theorem mm_iast (hexec : p.tables.exec = Jvm.exec) (hb : c.code = cc) (hK : mm_K D tys s) (hM : mm_W D A M H) (hS : va_S A H0 H locs) (t0 : Nat) {cA : ClassId} {n : Nat} {f : Nat → Int32} (he : M a = some (.inl (cA, n, .inl f))) (ht : tys[t0]? = some (cA, .int)) {i x : Int32} {j : Nat} (hi : i = nI j) (hj : j < n) (hn : n < 2 ^ 31) (hdg : decode cc pc = .ok (.iastore, 1))
    (kk : ∀ (H1 : Heap) (locs1 : List Loc) (M1 : Nat → Option va_E), mm_W D A M1 H1 → M1 a = some (.inl (cA, n, .inl (upd f j x))) → (∀ b, b ≠ a → M1 b = M b) → va_S A H0 H1 locs1 → W p l e R s m args below meth c H1 locs1 cells slots Q (F0 m (pc + 1) ls rest)) : W p l e R s m args below meth c H locs cells slots Q (F0 m pc ls (.int x :: .int i :: .ref a :: rest)) := by
  obtain ⟨ws, hP, hD, hw⟩ := hM
  obtain ⟨q0, hq⟩ := hw _ _ he
  subst hi
  refine va_iast hexec hb hK.1 hP hD hS q0 t0 hq ht (vp_in_nI hj hn) hdg (fun H1 locs1 hP1 hD1 hS1 => ?_)
  rw [nI_clamp (by omega)] at hP1 hD1
  obtain ⟨M1, g1, g2, g3⟩ := mm_set hw hq hP1 hD1
  exact kk H1 locs1 M1 g1 g2 g3 hS1
theorem mm_bast (hexec : p.tables.exec = Jvm.exec) (hb : c.code = cc) (hK : mm_K D tys s) (hM : mm_W D A M H) (hS : va_S A H0 H locs) (t0 : Nat) {cA : ClassId} {n : Nat} {f : Nat → Int32} (he : M a = some (.inl (cA, n, .inl f))) (ht : tys[t0]? = some (cA, .byte)) {i x : Int32} {j : Nat} (hi : i = nI j) (hj : j < n) (hn : n < 2 ^ 31) (hdg : decode cc pc = .ok (.bastore, 1))
    (kk : ∀ (H1 : Heap) (locs1 : List Loc) (M1 : Nat → Option va_E), mm_W D A M1 H1 → M1 a = some (.inl (cA, n, .inl (upd f j (vp_nar .byte x)))) → (∀ b, b ≠ a → M1 b = M b) → va_S A H0 H1 locs1 → W p l e R s m args below meth c H1 locs1 cells slots Q (F0 m (pc + 1) ls rest)) : W p l e R s m args below meth c H locs cells slots Q (F0 m pc ls (.int x :: .int i :: .ref a :: rest)) := by
  obtain ⟨ws, hP, hD, hw⟩ := hM
  obtain ⟨q0, hq⟩ := hw _ _ he
  subst hi
  refine va_bast hexec hb hK.1 hP hD hS q0 t0 hq ht (vp_in_nI hj hn) hdg (fun H1 locs1 hP1 hD1 hS1 => ?_)
  rw [nI_clamp (by omega)] at hP1 hD1
  obtain ⟨M1, g1, g2, g3⟩ := mm_set hw hq hP1 hD1
  exact kk H1 locs1 M1 g1 g2 g3 hS1
theorem mm_zast (hexec : p.tables.exec = Jvm.exec) (hb : c.code = cc) (hK : mm_K D tys s) (hM : mm_W D A M H) (hS : va_S A H0 H locs) (t0 : Nat) {cA : ClassId} {n : Nat} {f : Nat → Int32} (he : M a = some (.inl (cA, n, .inl f))) (ht : tys[t0]? = some (cA, .boolean)) {i x : Int32} {j : Nat} (hi : i = nI j) (hj : j < n) (hn : n < 2 ^ 31) (hdg : decode cc pc = .ok (.bastore, 1))
    (kk : ∀ (H1 : Heap) (locs1 : List Loc) (M1 : Nat → Option va_E), mm_W D A M1 H1 → M1 a = some (.inl (cA, n, .inl (upd f j (vp_nar .boolean x)))) → (∀ b, b ≠ a → M1 b = M b) → va_S A H0 H1 locs1 → W p l e R s m args below meth c H1 locs1 cells slots Q (F0 m (pc + 1) ls rest)) : W p l e R s m args below meth c H locs cells slots Q (F0 m pc ls (.int x :: .int i :: .ref a :: rest)) := by
  obtain ⟨ws, hP, hD, hw⟩ := hM
  obtain ⟨q0, hq⟩ := hw _ _ he
  subst hi
  refine va_zast hexec hb hK.1 hP hD hS q0 t0 hq ht (vp_in_nI hj hn) hdg (fun H1 locs1 hP1 hD1 hS1 => ?_)
  rw [nI_clamp (by omega)] at hP1 hD1
  obtain ⟨M1, g1, g2, g3⟩ := mm_set hw hq hP1 hD1
  exact kk H1 locs1 M1 g1 g2 g3 hS1
theorem mm_alen (hexec : p.tables.exec = Jvm.exec) (hb : c.code = cc) (hK : mm_K D tys s) (hM : mm_W D A M H) (t0 : Nat) {cA : ClassId} {x : vp_A} (he : M a = some (.inl (cA, x))) {ty : FieldType} (ht : tys[t0]? = some (cA, ty)) {v : Int32} (hv : Int32.ofNat x.1 = v) (hdg : decode cc pc = .ok (.arraylength, 1))
    (kk : W p l e R s m args below meth c H locs cells slots Q (F0 m (pc + 1) ls (.int v :: rest))) : W p l e R s m args below meth c H locs cells slots Q (F0 m pc ls (.ref a :: rest)) := by
  obtain ⟨ws, hP, hD, hw⟩ := hM
  obtain ⟨q0, hq⟩ := hw _ _ he
  exact va_alen hexec hb hK.1 hP q0 t0 hq ht hv hdg kk
theorem mm_aldq (hexec : p.tables.exec = Jvm.exec) (hb : c.code = cc) (hK : mm_K D tys s) (hM : mm_W D A M H) (t0 : Nat) {cA : ClassId} {C : String} {n y : Nat} {f : Nat → Option Nat} (he : M a = some (.inl (cA, n, .inr (.inr (.inr (.inr f)))))) (ht : tys[t0]? = some (cA, .object C)) {i : Int32} {j : Nat} (hi : i = nI j) (hj : j < n) (hn : n < 2 ^ 31) (hy : f j = some y) (hdg : decode cc pc = .ok (.aaload, 1))
    (kk : W p l e R s m args below meth c H locs cells slots Q (F0 m (pc + 1) ls (.ref y :: rest))) : W p l e R s m args below meth c H locs cells slots Q (F0 m pc ls (.int i :: .ref a :: rest)) := by
  obtain ⟨ws, hP, hD, hw⟩ := hM
  obtain ⟨q0, hq⟩ := hw _ _ he
  subst hi
  refine va_aldq hexec hb hK.1 hP q0 t0 hq ht (vp_in_nI hj hn) hdg ?_
  rw [nI_clamp (by omega), hy]
  exact kk
theorem mm_astq (hexec : p.tables.exec = Jvm.exec) (hb : c.code = cc) (hK : mm_K D tys s) (hM : mm_W D A M H) (hS : va_S A H0 H locs) (t0 ci : Nat) {cA : ClassId} {r : vw_C} {n v : Nat} {vs : List Value} {f : Nat → Option Nat} (he : M a = some (.inl (cA, n, .inr (.inr (.inr (.inr f)))))) (ht : tys[t0]? = some (cA, .object r.1)) (hv : M v = some (.inr (ci, vs))) (hc : vwCl[ci]? = some r) {i : Int32} {j : Nat} (hi : i = nI j) (hj : j < n) (hn : n < 2 ^ 31) (hdg : decode cc pc = .ok (.aastore, 1))
    (kk : ∀ (H1 : Heap) (locs1 : List Loc) (M1 : Nat → Option va_E), mm_W D A M1 H1 → M1 a = some (.inl (cA, n, .inr (.inr (.inr (.inr (va_up f j (some v))))))) → (∀ b, b ≠ a → M1 b = M b) → va_S A H0 H1 locs1 → W p l e R s m args below meth c H1 locs1 cells slots Q (F0 m (pc + 1) ls rest)) : W p l e R s m args below meth c H locs cells slots Q (F0 m pc ls (.ref v :: .int i :: .ref a :: rest)) := by
  obtain ⟨ws, hP, hD, hw⟩ := hM
  obtain ⟨q0, hq⟩ := hw _ _ he
  obtain ⟨qk, hqk⟩ := hw _ _ hv
  subst hi
  refine va_astq hexec hb hK.1 hP hD hS q0 t0 qk ci hq ht hqk hc (vp_in_nI hj hn) hdg (fun H1 locs1 hP1 hD1 hS1 => ?_)
  rw [nI_clamp (by omega)] at hP1 hD1
  obtain ⟨M1, g1, g2, g3⟩ := mm_set hw hq hP1 hD1
  exact kk H1 locs1 M1 g1 g2 g3 hS1
theorem mm_new (hexec : p.tables.exec = Jvm.exec) (hb : c.code = cc) {own C : String} {T : u_T} {N ci index : Nat} {Ts : List Cond} (hts : ∀ w ∈ Ts, w.before args s = true) (hin : ∀ w ∈ u_ws C T N, w ∈ Ts) (ty0 : Nat → FieldType) (hty : ∀ k, k < N → parseFieldDescriptor (T k).2.2.1 = some (ty0 k)) (hown : s.vm.findClass own = some m.cls) (hcl : (Cond.classLink own index C).before args s = true) (hinst : (Cond.instantiable C N).before args s = true) (hini : (Cond.initialized C).before args s = true) (hK : mm_K D tys s) (hM : mm_W D A M H) (hS : va_S A H0 H locs) (hA : ∀ q, H0.size ≤ q → A q) (hc : vwCl[ci]? = some (C, T, N)) {fs : List Value} (hfs : ∀ j, j < N → defaultValue (ty0 j) = vp_V fs j) (hcells : cells + 1 ≤ R.cells) (hslots : slots + N ≤ R.slots) (hdg : decode cc pc = .ok (.new index, 3))
    (kk : ∀ (q : Nat) (H1 : Heap) (M1 : Nat → Option va_E), mm_W D A M1 H1 → M1 q = some (.inr (ci, fs)) → M q = none → (∀ b, b ≠ q → M1 b = M b) → va_S A H0 H1 locs → W p l e R s m args below meth c H1 locs (cells + 1) (slots + N) Q (F0 m (pc + 3) ls (.ref q :: rest))) : W p l e R s m args below meth c H locs cells slots Q (F0 m pc ls rest) := by
  obtain ⟨ws, hP, hD, hw⟩ := hM
  refine va_new hexec hb hts hin ty0 hty hown hcl hinst hini hK.1 hP hD hS hA hc hfs hcells hslots hdg (fun q H1 hP1 hD1 hS1 => ?_)
  obtain ⟨M1, g1, g2, g3, g4⟩ := mm_push hw hP1 hD1
  exact kk q H1 M1 g1 g2 g3 g4 hS1
theorem mm_newa (hexec : p.tables.exec = Jvm.exec) (hb : c.code = cc) {atype : ArrayType} (harr : (Cond.arrayClass (newarray.typeOf atype)).before args s = true) {ty : FieldType} (hty : newarray.typeOf atype = ty) (hK : mm_K D tys s) (hM : mm_W D A M H) (hS : va_S A H0 H locs) (hA : ∀ q, H0.size ≤ q → A q) (t0 : Nat) {cB : ClassId} (ht : tys[t0]? = some (cB, ty)) (hno : ∀ C, ty ≠ .object C) {n : Int32} {N' : Nat} (ha : ∀ cA : ClassId, vp_cell cA (N', .inl (fun _ => 0)) = arrV cA N' (fun _ => defaultValue ty)) (hn : ¬ n < 0) (hN : n.toNatClampNeg = N') (hbytes : N' * componentBytes ty ≤ 536870912) (hcells : cells + 1 ≤ R.cells) (hslots : slots + N' ≤ R.slots) (hdg : decode cc pc = .ok (.newarray atype, 2))
    (kk : ∀ (q : Nat) (H1 : Heap) (M1 : Nat → Option va_E), mm_W D A M1 H1 → M1 q = some (.inl (cB, N', .inl (fun _ => 0))) → M q = none → (∀ b, b ≠ q → M1 b = M b) → va_S A H0 H1 locs → W p l e R s m args below meth c H1 locs (cells + 1) (slots + N') Q (F0 m (pc + 2) ls (.ref q :: rest))) : W p l e R s m args below meth c H locs cells slots Q (F0 m pc ls (.int n :: rest)) := by
  obtain ⟨ws, hP, hD, hw⟩ := hM
  refine va_newa hexec hb harr hty hK.1 hP hD hS hA ha hn hN hbytes hcells hslots hdg (fun q cA H1 hK1 hP1 hD1 hS1 => ?_)
  have e1 := (hK1.2 t0 _ (by rw [List.getElem?_append_left (List.getElem?_eq_some_iff.mp ht).1]; exact ht)).2
  have e2 := (hK1.2 tys.length (cA, ty) (by simp)).2
  have e3 : cA = cB := by
    cases ty with
    | object C => exact absurd rfl (hno C)
    | _ => exact Option.some.inj (e2.symm.trans e1)
  subst e3
  obtain ⟨M1, g1, g2, g3, g4⟩ := mm_push hw hP1 hD1
  exact kk q H1 M1 g1 g2 g3 g4 hS1
theorem mm_newq (hexec : p.tables.exec = Jvm.exec) (hb : c.code = cc) {own : String} {index : Nat} (hown : s.vm.findClass own = some m.cls) (hclink : (Cond.classLink own index RX3).before args s = true) (hK : mm_K D tys s) (hM : mm_W D A M H) (hS : va_S A H0 H locs) (hA : ∀ q, H0.size ≤ q → A q) (t0 : Nat) {cB : ClassId} (ht : tys[t0]? = some (cB, .object RX3)) {n : Int32} {N' : Nat} (hn : ¬ n < 0) (hN : n.toNatClampNeg = N') (hbytes : N' * 4 ≤ 536870912) (hcells : cells + 1 ≤ R.cells) (hslots : slots + N' ≤ R.slots) (hdg : decode cc pc = .ok (.anewarray index, 3))
    (kk : ∀ (q : Nat) (H1 : Heap) (M1 : Nat → Option va_E), mm_W D A M1 H1 → M1 q = some (.inl (cB, N', .inr (.inr (.inr (.inr (fun _ => none)))))) → M q = none → (∀ b, b ≠ q → M1 b = M b) → va_S A H0 H1 locs → W p l e R s m args below meth c H1 locs (cells + 1) (slots + N') Q (F0 m (pc + 3) ls (.ref q :: rest))) : W p l e R s m args below meth c H locs cells slots Q (F0 m pc ls (.int n :: rest)) := by
  obtain ⟨ws, hP, hD, hw⟩ := hM
  refine va_newq hexec hb hown hclink hK.2.2 hK.1 hP hD hS hA hn hN hbytes hcells hslots hdg (fun q cA H1 hK1 hP1 hD1 hS1 => ?_)
  obtain ⟨_, _, _, _, _, e1⟩ := (hK1.2 t0 _ (by rw [List.getElem?_append_left (List.getElem?_eq_some_iff.mp ht).1]; exact ht)).2
  obtain ⟨_, _, _, _, _, e2⟩ := (hK1.2 tys.length (cA, .object RX3) (by simp)).2
  have e3 : cA = cB := Option.some.inj (e2.symm.trans e1)
  subst e3
  obtain ⟨M1, g1, g2, g3, g4⟩ := mm_push hw hP1 hD1
  exact kk q H1 M1 g1 g2 g3 g4 hS1
end MMR
theorem mm_z_int (N : Nat) (cA : ClassId) : vp_cell cA (N, .inl (fun _ => 0)) = arrV cA N (fun _ => defaultValue .int) := rfl
theorem mm_z_byte (N : Nat) (cA : ClassId) : vp_cell cA (N, .inl (fun _ => 0)) = arrV cA N (fun _ => defaultValue .byte) := rfl
theorem mm_z_boolean (N : Nat) (cA : ClassId) : vp_cell cA (N, .inl (fun _ => 0)) = arrV cA N (fun _ => defaultValue .boolean) := rfl
section MMC
variable {p : Program} {l : Launch} {e : Env} {R : Room} {s : State} {m : MethodId} {args : Array Value} {below : List Frame} {meth : Method} {c : Code} {H : Heap} {locs : List Loc} {cells slots : Nat} {Q : State → Prop}
variable {cc : ByteArray} {pc : Nat} {ls : Array Slot} {rest st0 : List Value} {D : va_G} {A A0 : Nat → Prop} {b : Nat} {tys : List (ClassId × FieldType)} {M : Nat → Option va_E} {H0 : Heap}
variable {y : MethodName} {bytes : ByteArray} {maxL nL mc ms n index : Nat} {ret : Option FieldType} {ws : List Cond} {rm : Room} {Ts : List Cond} {own C : String} {As : List Value}
/-- a call is run: virtual, special (a constructor), static -/
def mm_Run (p : Program) (l : Launch) (e : Env) (R : Room) (s : State) (m : MethodId) (args : Array Value) (below : List Frame) (meth : Method) (c : Code) (H : Heap) (locs : List Loc) (cells slots mc ms : Nat) (g : JFrame) (rest : List Value) (Qc : Array Value → State → Outcome → State → Prop) (av : List Value) (A : Nat → Prop) : Prop := va_Run p l e R s m args below meth c H locs cells slots mc ms g rest (Qc av.toArray) A
theorem mm_runV {Qc : Array Value → State → Outcome → State → Prop} (S : CallFix p m c cc nL s args Ts own) (hMet : Met l y ws rm (mm_Pc D A tys M H.size (.ref b :: As)) Qc mc ms A) (cw : CallW R s args own C index y bytes maxL ret ws rm mc ms n) (hK : mm_K D tys s) (hM : mm_W D A M H) {ci : Nat} {fs : List Value} (he : M b = some (.inr (ci, fs))) {T : u_T} {N : Nat} (hc : vwCl[ci]? = some (C, T, N)) (hn : As.length = n) (hsize : ls.size = nL) (hstack : st0 = As.reverse ++ .ref b :: rest) (hW : (rest.map fun v => v.category).sum ≤ 8) (hdg : decode cc pc = .ok (.invokevirtual index, 3)) (hf : cells + mc ≤ R.cells ∧ slots + ms ≤ R.slots) :
    mm_Run p l e R s m args below meth c H locs cells slots mc ms (F0 m pc ls st0) rest Qc (.ref b :: As) A := by
  obtain ⟨q0, hq⟩ := hM.choose_spec.2.2 _ _ he
  exact va_runV S hMet cw ⟨mm_blind _ _ _ _ _ _, va_recv hK.1 hM.choose_spec.1 (q := (C, T, N)) hc hq, mm_pre _ hM hK⟩ rfl hn hsize hstack (lv_room hW) hdg hf
theorem mm_runI {Qc : Array Value → State → Outcome → State → Prop} (S : CallFix p m c cc nL s args Ts own) (hMet : Met l y ws rm (mm_Pc D A tys M H.size (.ref b :: As)) Qc mc ms A) (cw : CallB R s args own index y bytes maxL none ws rm mc ms n ∧ y.name = "<init>" ∧ (Cond.instanceMethod y).before args s = true) (hK : mm_K D tys s) (hM : mm_W D A M H) (hn : As.length = n) (hsize : ls.size = nL) (hstack : st0 = As.reverse ++ .ref b :: rest) (hW : (rest.map fun v => v.category).sum ≤ 8) (hdg : decode cc pc = .ok (.invokespecial index, 3)) (hf : cells + mc ≤ R.cells ∧ slots + ms ≤ R.slots) :
    mm_Run p l e R s m args below meth c H locs cells slots mc ms (F0 m pc ls st0) rest Qc (.ref b :: As) A :=
  va_runI S hMet cw ⟨mm_blind _ _ _ _ _ _, mm_pre _ hM hK⟩ rfl hn hsize hstack (lv_room hW) hdg hf
theorem mm_runS {Qc : Array Value → State → Outcome → State → Prop} (S : CallFix p m c cc nL s args Ts own) (hMet : Met l y ws rm (mm_Pc D A tys M H.size As) Qc mc ms A) (cw : CallB R s args own index y bytes maxL ret ws rm mc ms n ∧ (Cond.static y).before args s = true) (hK : mm_K D tys s) (hM : mm_W D A M H) (hn : As.length = n) (hsize : ls.size = nL) (hstack : st0 = As.reverse ++ rest) (hW : (rest.map fun v => v.category).sum ≤ 8) (hdg : decode cc pc = .ok (.invokestatic index, 3)) (hf : cells + mc ≤ R.cells ∧ slots + ms ≤ R.slots) :
    mm_Run p l e R s m args below meth c H locs cells slots mc ms (F0 m pc ls st0) rest Qc As A :=
  va_runS S hMet cw ⟨mm_blind _ _ _ _ _ _, mm_pre _ hM hK⟩ rfl hn hsize hstack (lv_room hW) hdg hf
/-- what a method leaves: its answer and the map behind it -/
abbrev mm_Qi (D : va_G) (A : Nat → Prop) (post : Int32 → (Nat → Option va_E) → Prop) : Array Value → State → Outcome → State → Prop := va_Qi post (fun M1 t => mm_W D A M1 t.heap) A
abbrev mm_Qv (D : va_G) (A : Nat → Prop) (post : (Nat → Option va_E) → Prop) : Array Value → State → Outcome → State → Prop := va_Qv post (fun M1 t => mm_W D A M1 t.heap) A
abbrev mm_Qr (D : va_G) (A : Nat → Prop) (post : Nat → (Nat → Option va_E) → Prop) : Array Value → State → Outcome → State → Prop := va_Qr (S := Nat → Option va_E) (fun _ => True) (fun M1 a t => post a M1 ∧ mm_W D A M1 t.heap) A
theorem mm_calli {post : Int32 → (Nat → Option va_E) → Prop} {av : List Value} (hr : mm_Run p l e R s m args below meth c H locs cells slots mc ms (F0 m pc ls st0) rest (mm_Qi D A post) av A) (hS : va_S A0 H0 H locs) (hA : ∀ q, A q → A0 q)
    (kk : ∀ (r : Int32) (M1 : Nat → Option va_E) (H1 : Heap) (locs1 : List Loc), post r M1 → mm_W D A M1 H1 → va_S A0 H0 H1 locs1 → H.size ≤ H1.size → (∀ q : Nat, q < H.size → ¬ A q → H1[q]? = H[q]?) → W p l e R s m args below meth c H1 locs1 (cells + mc) (slots + ms) Q (F0 m (pc + 3) ls (.int r :: rest))) : W p l e R s m args below meth c H locs cells slots Q (F0 m pc ls st0) :=
  va_calli hr hS (fun q _ h => hA q h) hA (fun r u t H1 locs1 ht _ hw hB hz hk hS1 => kk r u H1 locs1 hw (by rw [← ht]; exact hB) hS1 hz hk)
theorem mm_callv {post : (Nat → Option va_E) → Prop} {av : List Value} (hr : mm_Run p l e R s m args below meth c H locs cells slots mc ms (F0 m pc ls st0) rest (mm_Qv D A post) av A) (hS : va_S A0 H0 H locs) (hA : ∀ q, A q → A0 q)
    (kk : ∀ (M1 : Nat → Option va_E) (H1 : Heap) (locs1 : List Loc), post M1 → mm_W D A M1 H1 → va_S A0 H0 H1 locs1 → H.size ≤ H1.size → (∀ q : Nat, q < H.size → ¬ A q → H1[q]? = H[q]?) → W p l e R s m args below meth c H1 locs1 (cells + mc) (slots + ms) Q (F0 m (pc + 3) ls rest)) : W p l e R s m args below meth c H locs cells slots Q (F0 m pc ls st0) :=
  va_callv hr hS (fun q _ h => hA q h) hA (fun u t H1 locs1 ht _ hw hB hz hk hS1 => kk u H1 locs1 hw (by rw [← ht]; exact hB) hS1 hz hk)
theorem mm_callr {post : Nat → (Nat → Option va_E) → Prop} {av : List Value} (hr : mm_Run p l e R s m args below meth c H locs cells slots mc ms (F0 m pc ls st0) rest (mm_Qr D A post) av A) (hS : va_S A0 H0 H locs) (hA : ∀ q, A q → A0 q)
    (kk : ∀ (r : Nat) (M1 : Nat → Option va_E) (H1 : Heap) (locs1 : List Loc), post r M1 → mm_W D A M1 H1 → va_S A0 H0 H1 locs1 → H.size ≤ H1.size → (∀ q : Nat, q < H.size → ¬ A q → H1[q]? = H[q]?) → W p l e R s m args below meth c H1 locs1 (cells + mc) (slots + ms) Q (F0 m (pc + 3) ls (.ref r :: rest))) : W p l e R s m args below meth c H locs cells slots Q (F0 m pc ls st0) :=
  va_callr hr hS (fun q _ h => hA q h) hA (fun u ra t H1 locs1 ht _ _ hB hz hk hS1 => kk ra u H1 locs1 hB.1 (by rw [← ht]; exact hB.2) hS1 hz hk)
/-- a method's ends -/
theorem mm_iret {post : Int32 → (Nat → Option va_E) → Prop} {v : Int32} (hexec : p.tables.exec = Jvm.exec) (hb : c.code = cc) (hr : meth.sig.returnType = some .int) (hlocks : meth.locks = false) (hM : mm_W D A M H) (hS : va_S A s.heap H locs) (hp : post v M) (hdg : decode cc pc = .ok (.ireturn, 1)) : W p l e R s m args below meth c H locs cells slots (MQ below (mm_Qi D A post) args s cells slots A) (F0 m pc ls [.int v]) :=
  W.iret hexec hb hr (fun t ht _ => ⟨⟨v, M, rfl, hp, by show mm_W D A M t.heap; rw [ht]; exact hM⟩, hS.F ht⟩) hS.2.2 hdg hlocks
theorem mm_zret {post : Int32 → (Nat → Option va_E) → Prop} {v : Int32} (hexec : p.tables.exec = Jvm.exec) (hb : c.code = cc) (hr : meth.sig.returnType = some .boolean) (hlocks : meth.locks = false) (hn : narrow .boolean (.int v) = .int v) (hM : mm_W D A M H) (hS : va_S A s.heap H locs) (hp : post v M) (hdg : decode cc pc = .ok (.ireturn, 1)) : W p l e R s m args below meth c H locs cells slots (MQ below (mm_Qi D A post) args s cells slots A) (F0 m pc ls [.int v]) :=
  W.zret hexec hb hr hn (fun t ht _ => ⟨⟨v, M, rfl, hp, by show mm_W D A M t.heap; rw [ht]; exact hM⟩, hS.F ht⟩) hS.2.2 hdg hlocks
theorem mm_vret {post : (Nat → Option va_E) → Prop} (hexec : p.tables.exec = Jvm.exec) (hb : c.code = cc) (hr : meth.sig.returnType = none) (hlocks : meth.locks = false) (hM : mm_W D A M H) (hS : va_S A s.heap H locs) (hp : post M) (hdg : decode cc pc = .ok (.return_, 1)) : W p l e R s m args below meth c H locs cells slots (MQ below (mm_Qv D A post) args s cells slots A) (F0 m pc ls []) :=
  W.vret hexec hb hr (fun t ht _ => ⟨⟨M, rfl, hp, by show mm_W D A M t.heap; rw [ht]; exact hM⟩, hS.F ht⟩) hS.2.2 hdg hlocks
theorem mm_aret {post : Nat → (Nat → Option va_E) → Prop} {v : Nat} {C : String} (hexec : p.tables.exec = Jvm.exec) (hb : c.code = cc) (hr : meth.sig.returnType = some (.object C)) (hlocks : meth.locks = false) (hM : mm_W D A M H) (hS : va_S A s.heap H locs) (hp : post v M) (hdg : decode cc pc = .ok (.areturn, 1)) : W p l e R s m args below meth c H locs cells slots (MQ below (mm_Qr D A post) args s cells slots A) (F0 m pc ls [.ref v]) :=
  W.aret hexec hb hr (Or.inl ⟨_, rfl⟩) (Or.inr ⟨_, rfl⟩) (fun t ht _ => ⟨⟨M, v, rfl, trivial, hp, by rw [ht]; exact hM⟩, hS.F ht⟩) hS.2.2 hdg hlocks
end MMC
/-- the room that is left behind new cells -/
theorem mm_hA {A : Nat → Prop} {H0 H : Heap} {locs : List Loc} (hA : ∀ q, H0.size ≤ q → A q) (hS : va_S A H0 H locs) : ∀ q, H.size ≤ q → A q := fun q h => hA q (Nat.le_trans hS.1 h)
/-- a method's entry, once for all -/
theorem mm_met {l : Launch} {y : MethodName} {ws ws' : List Cond} {rm : Room} {D : va_G} {A : Nat → Prop} {tys : List (ClassId × FieldType)} {M : Nat → Option va_E} {sz : Nat} {av : List Value} {Qc : Array Value → State → Outcome → State → Prop} {mc ms : Nat} {cc : ByteArray} {maxL : Nat} {ret : Option FieldType}
    (hy : plainName y.cls = true) (hw : ws = Cond.code y cc maxL ret :: ws') (hn : (lg_sl av).length ≤ maxL)
    (body : ∀ (p : Program) (e : Env) (s : State) (m : MethodId) (args : Array Value) (below : List Frame) (meth : Method) (c : Code), p.tables.exec = Jvm.exec → c.code = cc → meth.sig.returnType = ret → (∀ w ∈ ws, w.before args s = true) → s.vm.findClass y.cls = some m.cls → meth.locks = false → meth.name = y.name → c.maxLocals = maxL → s.heap.size = sz → mm_K D tys s → mm_W D A M s.heap → va_S A s.heap s.heap [] → ∀ ls : Array Slot, lv_has ls maxL (lv_args 0 av) →
      W p l e (headSpec ws rm).room s m args below meth c s.heap [] 0 0 (MQ below Qc args s mc ms A) (F0 m 0 ls [])) : Met l y ws rm (mm_Pc D A tys M sz av) Qc mc ms A := by
  refine Met.ofW (cc := cc) (maxL := maxL) (ret := ret) hy hw ?_
  intro p e s m args below meth c s₁ B hml hv
  obtain ⟨rfl, hsz, hM, hK⟩ := hv
  have hl := lv_entry av (n := maxL) hn
  rw [lg_entry_eq]
  exact body p e s m _ below meth c B.exec B.bytes B.returns (atoms_spec (ws := ws) B.pre) (findClass_of_methodNamed B.named) B.notSynchronized (name_of_methodNamed B.named B.method).1 hml hsz hK hM va_S.rf _ hl
end
section
/-! ===== the sum, numbers in bytes, a head: as mathematics ===== -/
def cr_u (c : Int32) : Int32 := (c.toUInt32 >>> ((1 : Int32).toUInt32 &&& Int32.toUInt32 31)).toInt32
def cr_s (c : Int32) : Int32 := if c &&& 1 = 1 then cr_u c ^^^ (-306674912) else cr_u c
def cr_n : Nat → Int32 → Int32
  | 0, c => c
  | k + 1, c => cr_n k (cr_s c)
def cr_b (f : Nat → Int32) : Nat → Nat → Int32 → Int32
  | _, 0, c => c
  | i, n + 1, c => cr_b f (i + 1) n (cr_n 8 (c ^^^ f i))
/-- four bytes from j on as a number -/
def nm_g (f : Nat → Int32) (j : Nat) : Int32 := f j <<< ((24 : Int32) &&& 31) ||| f (j + 1) <<< ((16 : Int32) &&& 31) ||| f (j + 2) <<< ((8 : Int32) &&& 31) ||| f (j + 3)
def us_h (n k : Int32) : Int32 := (n.toUInt32 >>> (k.toUInt32 &&& Int32.toUInt32 31)).toInt32
/-- a number into four bytes from j on -/
def nm_s (f : Nat → Int32) (j : Nat) (n : Int32) : Nat → Int32 := upd (upd (upd (upd f j (us_h n 24 &&& 255)) (j + 1) (us_h n 16 &&& 255)) (j + 2) (us_h n 8 &&& 255)) (j + 3) (n &&& 255)
def hd_p (v s r p : Int32) : Nat → Int32 := upd (nm_s (nm_s (nm_s (fun _ => 0) 0 v) 4 s) 8 r) 12 (p &&& 255)
/-- a head -/
def hd_f (v s r p : Int32) : Nat → Int32 := nm_s (hd_p v s r p) 13 (cr_b (hd_p v s r p) 0 13 (-1) ^^^ (-1))
theorem hd_sum : nm_g (hd_f 1 1 1 2) 13 = cr_b (hd_f 1 1 1 2) 0 13 (-1) ^^^ (-1) := by decide +kernel
theorem hd_ver : nm_g (hd_f 1 1 1 2) 0 = 1 := by decide +kernel
theorem hd_rec : nm_g (hd_f 1 1 1 2) 8 = 1 := by decide +kernel
theorem hd_plc : hd_f 1 1 1 2 12 = 2 := by decide +kernel
theorem hd_nul : ¬ nm_g (fun _ => 0) 13 = cr_b (fun _ => 0) 0 13 (-1) ^^^ (-1) := by decide +kernel
theorem def_X0 : ∀ j, j < 8 → defaultValue (tyX0 j) = vp_V [.null, .int 0, .int 0, .int 0, .int 0, .int 0, .int 0, .int 0] j := fun j hj => match j, hj with
  | 0, _ => rfl
  | 1, _ => rfl
  | 2, _ => rfl
  | 3, _ => rfl
  | 4, _ => rfl
  | 5, _ => rfl
  | 6, _ => rfl
  | 7, _ => rfl
  | k + 8, h => absurd h (by omega)
theorem def_X1 : ∀ j, j < 4 → defaultValue (tyX1 j) = vp_V [.null, .int 0, .int 0, .int 0] j := fun j hj => match j, hj with
  | 0, _ => rfl
  | 1, _ => rfl
  | 2, _ => rfl
  | 3, _ => rfl
  | k + 4, h => absurd h (by omega)
theorem def_X2 : ∀ j, j < 5 → defaultValue (tyX2 j) = vp_V [.null, .int 0, .int 0, .int 0, .int 0] j := fun j hj => match j, hj with
  | 0, _ => rfl
  | 1, _ => rfl
  | 2, _ => rfl
  | 3, _ => rfl
  | 4, _ => rfl
  | k + 5, h => absurd h (by omega)
theorem def_X3 : ∀ j, j < 2 → defaultValue (tyX3 j) = vp_V [.null, .int 0] j := fun j hj => match j, hj with
  | 0, _ => rfl
  | 1, _ => rfl
  | k + 2, h => absurd h (by omega)
theorem def_X4 : ∀ j, j < 4 → defaultValue (tyX4 j) = vp_V [.null, .int 0, .int 0, .int 0] j := fun j hj => match j, hj with
  | 0, _ => rfl
  | 1, _ => rfl
  | 2, _ => rfl
  | 3, _ => rfl
  | k + 4, h => absurd h (by omega)
theorem def_X5 : ∀ j, j < 10 → defaultValue (tyX5 j) = vp_V [.null, .null, .null, .null, .null, .null, .int 0, .int 0, .int 0, .int 0] j := fun j hj => match j, hj with
  | 0, _ => rfl
  | 1, _ => rfl
  | 2, _ => rfl
  | 3, _ => rfl
  | 4, _ => rfl
  | 5, _ => rfl
  | 6, _ => rfl
  | 7, _ => rfl
  | 8, _ => rfl
  | 9, _ => rfl
  | k + 10, h => absurd h (by omega)
theorem def_X6 : ∀ j, j < 34 → defaultValue (tyX6 j) = vp_V [.null, .null, .int 0, .int 0, .int 0, .int 0, .int 0, .int 0, .null, .int 0, .null, .int 0, .null, .int 0, .int 0, .int 0, .int 0, .int 0, .int 0, .int 0, .int 0, .int 0, .int 0, .null, .null, .null, .null, .int 0, .null, .int 0, .int 0, .int 0, .int 0, .int 0] j := fun j hj => match j, hj with
  | 0, _ => rfl
  | 1, _ => rfl
  | 2, _ => rfl
  | 3, _ => rfl
  | 4, _ => rfl
  | 5, _ => rfl
  | 6, _ => rfl
  | 7, _ => rfl
  | 8, _ => rfl
  | 9, _ => rfl
  | 10, _ => rfl
  | 11, _ => rfl
  | 12, _ => rfl
  | 13, _ => rfl
  | 14, _ => rfl
  | 15, _ => rfl
  | 16, _ => rfl
  | 17, _ => rfl
  | 18, _ => rfl
  | 19, _ => rfl
  | 20, _ => rfl
  | 21, _ => rfl
  | 22, _ => rfl
  | 23, _ => rfl
  | 24, _ => rfl
  | 25, _ => rfl
  | 26, _ => rfl
  | 27, _ => rfl
  | 28, _ => rfl
  | 29, _ => rfl
  | 30, _ => rfl
  | 31, _ => rfl
  | 32, _ => rfl
  | 33, _ => rfl
  | k + 34, h => absurd h (by omega)
/-! ===== the disk's sectors: addresses g of the sectors, h of their bytes ===== -/
theorem mm_iq {c d : ClassId} {n k : Nat} {f : Nat → Int32} {g} : (Sum.inl (c, n, .inl f) : va_E) ≠ .inl (d, k, .inr g) := fun e => by injection e with e; injection e with _ e; injection e with _ e; cases e
theorem mm_qi {c d : ClassId} {n k : Nat} {f : Nat → Int32} {g} : (Sum.inl (d, k, .inr g) : va_E) ≠ .inl (c, n, .inl f) := fun e => by injection e with e; injection e with _ e; injection e with _ e; cases e
def st_inv (cI : ClassId) (M : Nat → Option va_E) (fa : Nat → Option Nat) (g h : Nat → Nat) (F : Nat → Nat → Int32) (i : Nat) : Prop := ∀ j, j < i → fa j = some (g j) ∧ M (g j) = some (Sum.inr (3, [.ref (h j), .int 0]) : va_E) ∧ M (h j) = some (Sum.inl (cI, 64, .inl (F j)) : va_E) ∧ (0 < j → h j ≠ h 0)
theorem st_keep {cI : ClassId} {M M1 : Nat → Option va_E} {fa : Nat → Option Nat} {g h : Nat → Nat} {F : Nat → Nat → Int32} {i : Nat} (H : st_inv cI M fa g h F i) (hk : ∀ j, j < i → M1 (g j) = M (g j) ∧ M1 (h j) = M (h j)) : st_inv cI M1 fa g h F i := fun j hj => ⟨(H j hj).1, (hk j hj).1.trans (H j hj).2.1, (hk j hj).2.trans (H j hj).2.2.1, (H j hj).2.2.2⟩
theorem st_add {cI : ClassId} {M : Nat → Option va_E} {fa : Nat → Option Nat} {g h : Nat → Nat} {i q qb : Nat} (H : st_inv cI M fa g h (fun _ _ => 0) i) (h1 : M q = some (Sum.inr (3, [.ref qb, .int 0]) : va_E)) (h2 : M qb = some (Sum.inl (cI, 64, .inl (fun _ => 0)) : va_E)) (h3 : 0 < i → qb ≠ h 0) : st_inv cI M (va_up fa i (some q)) (va_up g i q) (va_up h i qb) (fun _ _ => 0) (i + 1) := by
  intro j hj
  by_cases e : j = i
  · subst e
    rw [va_up_self, va_up_self, va_up_self]
    refine ⟨rfl, h1, h2, fun h0 => ?_⟩
    rw [va_up_ne _ _ (by omega)]
    exact h3 h0
  · rw [va_up_ne _ _ e, va_up_ne _ _ e, va_up_ne _ _ e]
    obtain ⟨a1, a2, a3, a4⟩ := H j (by omega)
    refine ⟨a1, a2, a3, fun h0 => ?_⟩
    rw [va_up_ne _ _ (by omega)]
    exact a4 h0
/-! ===== what a new object answers ===== -/
def gl_F : Nat → Nat → Int32 := fun j => if j = 0 then hd_f 1 1 1 2 else fun _ => 0
theorem st_head {cI : ClassId} {M M1 : Nat → Option va_E} {fa : Nat → Option Nat} {g h : Nat → Nat} (H : st_inv cI M fa g h (fun _ _ => 0) 64) (h1 : M1 (h 0) = some (Sum.inl (cI, 64, .inl (hd_f 1 1 1 2)) : va_E)) (ho : ∀ q, q ≠ h 0 → M1 q = M q) : st_inv cI M1 fa g h gl_F 64 := by
  intro j hj
  obtain ⟨a1, a2, a3, a4⟩ := H j hj
  have b3 := (H 0 (by decide)).2.2.1
  refine ⟨a1, (ho _ (mm_ne a2 b3 mm_oa)).trans a2, ?_, a4⟩
  by_cases e : j = 0
  · subst e
    exact h1
  · have : gl_F j = fun _ => 0 := by unfold gl_F; rw [if_neg e]
    rw [this]
    exact (ho _ (a4 (by omega))).trans a3
def tk_f (k : Int32) : Int32 := if k < 1 then 0 else if 1000 < k then 0 else 1
theorem tk_1 {k : Int32} (h : ¬ tk_f k = 0) : 1 = tk_f k := by
  unfold tk_f at h ⊢
  split at h
  · exact absurd rfl h
  · split at h
    · exact absurd rfl h
    · rename_i h1 h2
      rw [if_neg h1, if_neg h2]
def fd_f (k : Int32) : Int32 := if k < 0 then 0 else if 255 < k then 0 else 1
def tc_f (k : Int32) : Int32 := if tk_f k = 0 then -1 else 0
def cp_f (k : Int32) : Int32 := if k = 1 then 0 else -1
theorem cp_lo {k : Int32} (h : k < 1) : (-1) = cp_f k := by
  unfold cp_f
  rw [if_neg (fun e => by rw [e] at h; exact absurd h (by decide))]
theorem cp_hi {k : Int32} (h : ¬ k ≤ 1) : (-1) = cp_f k := by
  unfold cp_f
  rw [if_neg (fun e => by rw [e] at h; exact absurd h (by decide))]
theorem cp_hi2 {k : Int32} (h : 1 < k) : (-1) = cp_f k := by
  unfold cp_f
  rw [if_neg (fun e => by rw [e] at h; exact absurd h (by decide))]
theorem cp_eq {k : Int32} (h : ¬ k < 1) (h2 : k ≤ 1) : k = 1 := by
  rw [Int32.lt_iff_toInt_lt] at h
  rw [Int32.le_iff_toInt_le] at h2
  exact Int32.toInt_inj.mp (by omega)
theorem cp_eq2 {k : Int32} (h : ¬ k < 1) (h2 : ¬ 1 < k) : k = 1 := by
  rw [Int32.lt_iff_toInt_lt] at h h2
  exact Int32.toInt_inj.mp (by omega)
def ar_f (n p : Int32) : Int32 := if n < 0 then 0 else if 100 < n then 0 else if p < 0 then 0 else if 63 < p then 0 else 1
theorem ar_le {p : Int32} : (64 ≤ p) ↔ 63 < p := by
  rw [Int32.lt_iff_toInt_lt, Int32.le_iff_toInt_le]
  have e1 : (64 : Int32).toInt = 64 := by decide
  have e0 : (63 : Int32).toInt = 63 := by decide
  omega
theorem ar_lt {p : Int32} : (p < 64) ↔ ¬ 63 < p := by
  rw [Int32.lt_iff_toInt_lt, Int32.lt_iff_toInt_lt]
  have e1 : (64 : Int32).toInt = 64 := by decide
  have e0 : (63 : Int32).toInt = 63 := by decide
  omega
def ib_f (s i : Int32) : Int32 := if s < 0 then 0 else if 64 ≤ s then 0 else if i < 0 then 0 else if 64 ≤ i then 0 else 1
theorem ib_lt {p : Int32} : (p < 64) ↔ ¬ 64 ≤ p := by
  rw [Int32.lt_iff_toInt_lt, Int32.le_iff_toInt_le]
  omega
theorem ib_in {s : Int32} (h0 : ¬ s < 0) (h1 : ¬ 64 ≤ s) : ∃ j : Nat, j < 64 ∧ s = nI j := by
  rcases pk_ix s (n := 64) (by decide) with h | h | ⟨j, hj, e⟩
  · exact absurd h h0
  · exact absurd h h1
  · exact ⟨j, hj, e⟩
theorem ib_1 {s i : Int32} (h : ¬ ib_f s i = 0) : ∃ j k : Nat, j < 64 ∧ k < 64 ∧ s = nI j ∧ i = nI k := by
  unfold ib_f at h
  split at h
  · exact absurd rfl h
  · split at h
    · exact absurd rfl h
    · split at h
      · exact absurd rfl h
      · split at h
        · exact absurd rfl h
        · rename_i a1 a2 a3 a4
          obtain ⟨j, hj, e1⟩ := ib_in a1 a2
          obtain ⟨k, hk, e2⟩ := ib_in a3 a4
          exact ⟨j, k, hj, hk, e1, e2⟩
def dk_f (s i : Int32) : Int32 := if ib_f s i = 0 then -1 else gl_F s.toNatClampNeg i.toNatClampNeg
theorem dk_no {s i : Int32} (h : ib_f s i = 0) : (-1) = dk_f s i := by unfold dk_f; rw [if_pos h]
theorem dk_yes {s i : Int32} {j k : Nat} (h : ¬ ib_f s i = 0) (hj : j < 64) (hk : k < 64) (e1 : s = nI j) (e2 : i = nI k) : gl_F j k = dk_f s i := by
  unfold dk_f
  rw [if_neg h, e1, e2, nI_clamp (by omega), nI_clamp (by omega)]
def ct_f (w : Int32) : Int32 := if w = 0 then 1 else if w = 4 then 2 else if w = 5 then 1 else if w = 9 then 1 else if w = 1 then 0 else if w = 2 then 0 else if w = 3 then 0 else if w = 6 then 0 else if w = 7 then 0 else -1
theorem ct_cases (w : Int32) : w = 0 ∨ w = 1 ∨ w = 2 ∨ w = 3 ∨ w = 4 ∨ w = 5 ∨ w = 6 ∨ w = 7 ∨ w = 8 ∨ w = 9 ∨ (w < 0 ∨ 9 < w) := by
  rcases pk_ix w (n := 10) (by decide) with h | h | ⟨j, hj, e⟩
  · exact Or.inr (Or.inr (Or.inr (Or.inr (Or.inr (Or.inr (Or.inr (Or.inr (Or.inr (Or.inr (Or.inl h))))))))))
  · refine Or.inr (Or.inr (Or.inr (Or.inr (Or.inr (Or.inr (Or.inr (Or.inr (Or.inr (Or.inr (Or.inr ?_))))))))))
    rw [Int32.le_iff_toInt_le] at h
    rw [Int32.lt_iff_toInt_lt]
    have e1 : (nI 10).toInt = 10 := by decide
    have e0 : (9 : Int32).toInt = 9 := by decide
    omega
  · subst e
    have : j = 0 ∨ j = 1 ∨ j = 2 ∨ j = 3 ∨ j = 4 ∨ j = 5 ∨ j = 6 ∨ j = 7 ∨ j = 8 ∨ j = 9 := by omega
    rcases this with rfl | rfl | rfl | rfl | rfl | rfl | rfl | rfl | rfl | rfl <;> decide
theorem ct_out {w : Int32} (h : w < 0 ∨ 9 < w) : (-1) = ct_f w := by
  have hh : ∀ k : Int32, ¬ (k < 0 ∨ 9 < k) → w ≠ k := fun k hk e => hk (by rw [← e]; exact h)
  unfold ct_f
  rw [if_neg (hh 0 (by decide)), if_neg (hh 4 (by decide)), if_neg (hh 5 (by decide)), if_neg (hh 9 (by decide)), if_neg (hh 1 (by decide)), if_neg (hh 2 (by decide)), if_neg (hh 3 (by decide)), if_neg (hh 6 (by decide)), if_neg (hh 7 (by decide))]
theorem ct_int {w : Int32} (h : w < 0 ∨ 9 < w) : w.toInt < 0 ∨ 9 < w.toInt := by
  rw [Int32.lt_iff_toInt_lt, Int32.lt_iff_toInt_lt] at h
  have e1 : (0 : Int32).toInt = 0 := by decide
  have e0 : (9 : Int32).toInt = 9 := by decide
  omega
/-! ===== worlds that are moved ===== -/
theorem mm_W.base {D : va_G} {A B : Nat → Prop} {M : Nat → Option va_E} {H : Heap} (h : mm_W D A M H) (hB : ∀ q, A q → q < H.size → B q) : mm_W D B M H := by
  obtain ⟨ws, hP, hD, hw⟩ := h
  exact ⟨ws, hP, hD.weaken (fun k q hk ha => hB q.1 ha (hP k q hk).lt), hw⟩
theorem mm_W.kept {D : va_G} {A : Nat → Prop} {M : Nat → Option va_E} {H H1 : Heap} (h : mm_W D A M H) (hk : ∀ q, A q → q < H.size → H1[q]? = H[q]?) : mm_W D A M H1 := by
  obtain ⟨ws, hP, hD, hw⟩ := h
  exact ⟨ws, hP.kept (fun k q hq => hk q.1 (hD.2 k q hq) (hP k q hq).lt), hD, hw⟩
end
section
theorem in_X3_init_X3 : ∀ w ∈ u_ws RX3 TX3 2, w ∈ wsX3_init := fun w h => List.mem_cons_of_mem _ (List.mem_append_right _ h)
set_option maxHeartbeats 4000000 in
set_option maxRecDepth 100000 in
/-- Sector(): 64 bytes of 0 -/
theorem c_X3_init {l : Launch} {D : va_G} {A : Nat → Prop} {cI cS cB cZ : ClassId} {M : Nat → Option va_E} {sz : Nat} (hA : ∀ q, sz ≤ q → A q) {a : Nat} {x : Value} {t : Int32} (h_a : M a = some (Sum.inr (3, [x, .int t]) : va_E)) : Met l yX3_init wsX3_init ({ frames := 1, cells := 1, slots := 64, locals := 20 }) (mm_Pc D A (mm_T cI cS cB cZ) M sz [.ref a]) (mm_Qv D A (fun M1 => ∃ qb : Nat, M qb = none ∧ M1 a = some (Sum.inr (3, [.ref qb, .int 0]) : va_E) ∧ M1 qb = some (Sum.inl (cI, 64, .inl (fun _ => 0)) : va_E) ∧ ∀ q, q ≠ a → q ≠ qb → M1 q = M q)) 1 64 A := by
  refine mm_met (cc := cX3_init) (maxL := 1) (ret := none) (by decide) rfl (Nat.le_of_ble_eq_true rfl) ?_
  intro p e s m args below meth c hx hb hr hts hown hlk hin hml hsz hK hM hS ls hl
  subst hsz
  have hl : lv_has ls 1 [(0, .ref a)] := hl
  refine lv_aload_n hx hb dX3_init_0 rfl (lv_at hl 0 rfl) ?_
  refine W.objInit hx hb hown (hts (.methodLink RX3 3 objectInit) (List.mem_of_getElem? (i := 1) rfl)) (hts (.instanceMethod objectInit) (List.mem_of_getElem? (i := 2) rfl)) (hts _ (List.mem_of_getElem? (i := 3) rfl)) rfl (by rw [hml]; exact hl.1) rfl dX3_init_1 (Nat.le_of_ble_eq_true rfl) (Nat.le_of_ble_eq_true rfl) ?_
  refine W.eq (g2 := F0 m 4 ls []) rfl ?_
  refine lv_aload_n hx hb dX3_init_4 rfl (lv_at hl 0 rfl) ?_
  refine lv_bipush (v := 64) hx hb dX3_init_5 (by decide) ?_
  refine mm_newa (atype := .int) (ty := .int) (N' := 64) hx hb (hts (.arrayClass .int) (List.mem_of_getElem? (i := 4) rfl)) rfl hK hM hS hA 0 rfl (fun _ h => by cases h) (mm_z_int 64) (by decide +kernel) (by decide +kernel) (by decide +kernel) (Nat.le_of_ble_eq_true rfl) (Nat.le_of_ble_eq_true rfl) dX3_init_7 (fun qb H M hM ha hn ho hS => ?_)
  have n_a_qb : a ≠ qb := mm_nn h_a hn
  have h_a := (ho a n_a_qb).trans h_a
  have h_qb : _ = some (Sum.inl (cI, 64, .inl (fun _ => 0)) : va_E) := ha
  refine W.widen (k := 1) (n := 64) (by omega) (by omega) ?_
  have hnq := hn
  have ho0 := ho
  refine mm_putF (v := .ref qb) (ci := 3) (C := RX3) (T := TX3) (N := 2) hx hb hts (in_X3_init_X3) tyX3 tyX3_ok nmX3 hown hK hM hS h_a rfl 0 (by decide) (hts (.fieldLink RX3 9 "GroupLog$Sector" "bytes" "[I") (List.mem_of_getElem? (i := 5) rfl)) rfl hin rfl rfl rfl (Nat.le_of_ble_eq_true rfl) dX3_init_9 (fun H locs M hM ha ho hS => ?_)
  have h_qb := (ho qb (Ne.symm n_a_qb)).trans h_qb
  have h_a : _ = some (Sum.inr (3, [.ref qb, .int t]) : va_E) := ha
  have ho1 := ho
  refine lv_aload_n hx hb dX3_init_12 rfl (lv_at hl 0 rfl) ?_
  refine lv_iconst (v := 0) hx hb dX3_init_13 (by decide) ?_
  refine mm_put (v := .int 0) (ci := 3) (C := RX3) (T := TX3) (N := 2) hx hb hts (in_X3_init_X3) tyX3 tyX3_ok nmX3 hown hK hM hS h_a rfl 1 (by decide) (hts (.fieldLink RX3 15 "GroupLog$Sector" "isTorn" "Z") (List.mem_of_getElem? (i := 6) rfl)) rfl rfl rfl (Nat.le_of_ble_eq_true rfl) dX3_init_14 (fun H locs M hM ha ho hS => ?_)
  have h_qb := (ho qb (Ne.symm n_a_qb)).trans h_qb
  have h_a : _ = some (Sum.inr (3, [.ref qb, .int 0]) : va_E) := ha
  have ho2 := ho
  exact mm_vret hx hb hr hlk hM hS (⟨qb, hnq, h_a, h_qb, fun q hq h => by rw [ho q hq, ho1 q hq, ho0 q h]⟩) dX3_init_17

theorem in_X3_get_X3 : ∀ w ∈ u_ws RX3 TX3 2, w ∈ wsX3_get := fun w h => List.mem_cons_of_mem _ (List.mem_append_right _ h)
set_option maxHeartbeats 4000000 in
set_option maxRecDepth 100000 in
/-- Sector.get -/
theorem c_X3_get {l : Launch} {D : va_G} {A : Nat → Prop} {cI cS cB cZ : ClassId} {M : Nat → Option va_E} {sz : Nat} {a b : Nat} {t : Int32} {f : Nat → Int32} {i : Int32} (j : Nat) (hij : i = nI j) (hj : j < 64) (h_a : M a = some (Sum.inr (3, [.ref b, .int t]) : va_E)) (h_b : M b = some (Sum.inl (cI, 64, .inl (f)) : va_E)) : Met l yX3_get wsX3_get ({ frames := 0, cells := 0, slots := 0, locals := 0 }) (mm_Pc D A (mm_T cI cS cB cZ) M sz [.ref a, .int i]) (mm_Qi D A (fun r M1 => r = f j ∧ M1 = M)) 0 0 A := by
  refine mm_met (cc := cX3_get) (maxL := 2) (ret := (some .int)) (by decide) rfl (Nat.le_of_ble_eq_true rfl) ?_
  intro p e s m args below meth c hx hb hr hts hown hlk hin hml hsz hK hM hS ls hl
  subst hsz
  have hl : lv_has ls 2 [(0, .ref a), (1, .int i)] := hl
  refine lv_iload_n hx hb dX3_get_0 rfl (lv_at hl 1 rfl) ?_
  refine lv_if_lt (tgt := 22) hx hb dX3_get_1 (by decide) (fun c_1 => ?_) (fun c_1 => ?_)
  · exact absurd c_1 (by rw [hij]; exact nI_pos (by omega))
  refine lv_iload_n hx hb dX3_get_4 rfl (lv_at hl 1 rfl) ?_
  refine lv_aload_n hx hb dX3_get_5 rfl (lv_at hl 0 rfl) ?_
  refine mm_get (v := .ref b) (ci := 3) (C := RX3) (T := TX3) (N := 2) hx hb hts (in_X3_get_X3) hown hK hM h_a rfl 0 (by decide) (hts (.fieldLink RX3 9 "GroupLog$Sector" "bytes" "[I") (List.mem_of_getElem? (i := 1) rfl)) rfl dX3_get_6 ?_
  refine mm_alen (v := 64) hx hb hK hM 0 h_b rfl rfl dX3_get_9 ?_
  refine lv_icmp_ge (tgt := 22) hx hb dX3_get_10 (by decide) (fun c_2 => ?_) (fun c_2 => ?_)
  · exact absurd c_2 (by rw [hij]; exact nI_ge (b := 64) hj (by decide))
  refine lv_aload_n hx hb dX3_get_13 rfl (lv_at hl 0 rfl) ?_
  refine mm_get (v := .ref b) (ci := 3) (C := RX3) (T := TX3) (N := 2) hx hb hts (in_X3_get_X3) hown hK hM h_a rfl 0 (by decide) (hts (.fieldLink RX3 9 "GroupLog$Sector" "bytes" "[I") (List.mem_of_getElem? (i := 1) rfl)) rfl dX3_get_14 ?_
  refine lv_iload_n hx hb dX3_get_17 rfl (lv_at hl 1 rfl) ?_
  refine mm_iald hx hb hK hM 0 h_b rfl (j := j) (hij) (hj) (by decide) dX3_get_18 ?_
  refine lv_goto (tgt := 23) hx hb dX3_get_19 (by decide) ?_
  exact mm_iret hx hb hr hlk hM hS (⟨rfl, rfl⟩) dX3_get_23

theorem in_X3_set_X3 : ∀ w ∈ u_ws RX3 TX3 2, w ∈ wsX3_set := fun w h => List.mem_cons_of_mem _ (List.mem_append_right _ h)
set_option maxHeartbeats 4000000 in
set_option maxRecDepth 100000 in
/-- Sector.set -/
theorem c_X3_set {l : Launch} {D : va_G} {A : Nat → Prop} {cI cS cB cZ : ClassId} {M : Nat → Option va_E} {sz : Nat} {a b : Nat} {t : Int32} {f : Nat → Int32} {i : Int32} (j : Nat) (hij : i = nI j) (hj : j < 64) {x : Int32} (h_a : M a = some (Sum.inr (3, [.ref b, .int t]) : va_E)) (h_b : M b = some (Sum.inl (cI, 64, .inl (f)) : va_E)) : Met l yX3_set wsX3_set ({ frames := 0, cells := 0, slots := 0, locals := 0 }) (mm_Pc D A (mm_T cI cS cB cZ) M sz [.ref a, .int i, .int x]) (mm_Qv D A (fun M1 => M1 b = some (Sum.inl (cI, 64, .inl (upd f j (x &&& 255))) : va_E) ∧ ∀ q, q ≠ b → M1 q = M q)) 0 0 A := by
  refine mm_met (cc := cX3_set) (maxL := 3) (ret := none) (by decide) rfl (Nat.le_of_ble_eq_true rfl) ?_
  intro p e s m args below meth c hx hb hr hts hown hlk hin hml hsz hK hM hS ls hl
  subst hsz
  have hl : lv_has ls 3 [(0, .ref a), (1, .int i), (2, .int x)] := hl
  refine lv_iload_n hx hb dX3_set_0 rfl (lv_at hl 1 rfl) ?_
  refine lv_if_lt (tgt := 24) hx hb dX3_set_1 (by decide) (fun c_1 => ?_) (fun c_1 => ?_)
  · exact absurd c_1 (by rw [hij]; exact nI_pos (by omega))
  refine lv_iload_n hx hb dX3_set_4 rfl (lv_at hl 1 rfl) ?_
  refine lv_aload_n hx hb dX3_set_5 rfl (lv_at hl 0 rfl) ?_
  refine mm_get (v := .ref b) (ci := 3) (C := RX3) (T := TX3) (N := 2) hx hb hts (in_X3_set_X3) hown hK hM h_a rfl 0 (by decide) (hts (.fieldLink RX3 9 "GroupLog$Sector" "bytes" "[I") (List.mem_of_getElem? (i := 1) rfl)) rfl dX3_set_6 ?_
  refine mm_alen (v := 64) hx hb hK hM 0 h_b rfl rfl dX3_set_9 ?_
  refine lv_icmp_ge (tgt := 24) hx hb dX3_set_10 (by decide) (fun c_2 => ?_) (fun c_2 => ?_)
  · exact absurd c_2 (by rw [hij]; exact nI_ge (b := 64) hj (by decide))
  refine lv_aload_n hx hb dX3_set_13 rfl (lv_at hl 0 rfl) ?_
  refine mm_get (v := .ref b) (ci := 3) (C := RX3) (T := TX3) (N := 2) hx hb hts (in_X3_set_X3) hown hK hM h_a rfl 0 (by decide) (hts (.fieldLink RX3 9 "GroupLog$Sector" "bytes" "[I") (List.mem_of_getElem? (i := 1) rfl)) rfl dX3_set_14 ?_
  refine lv_iload_n hx hb dX3_set_17 rfl (lv_at hl 1 rfl) ?_
  refine lv_iload_n hx hb dX3_set_18 rfl (lv_at hl 2 rfl) ?_
  refine lv_sipush (v := 255) hx hb dX3_set_19 (by decide) ?_
  refine lv_iand hx hb dX3_set_22 ?_
  refine mm_iast hx hb hK hM hS 0 h_b rfl (j := j) (hij) (hj) (by decide) dX3_set_23 (fun H locs M hM ha ho hS => ?_)
  have h_a := (ho a (mm_ne h_a h_b mm_oa)).trans h_a
  have h_b : _ = some (Sum.inl (cI, 64, .inl (upd (f) (j) ((x &&& 255)))) : va_E) := ha
  exact mm_vret hx hb hr hlk hM hS (⟨h_b, ho⟩) dX3_set_24

theorem in_X3_number_X3 : ∀ w ∈ u_ws RX3 TX3 2, w ∈ wsX3_number := fun w h => List.mem_cons_of_mem _ (List.mem_append_right _ h)
set_option maxHeartbeats 4000000 in
set_option maxRecDepth 100000 in
/-- Sector.number -/
theorem c_X3_number {l : Launch} {D : va_G} {A : Nat → Prop} {cI cS cB cZ : ClassId} {M : Nat → Option va_E} {sz : Nat} {a b : Nat} {t : Int32} {f : Nat → Int32} {i : Int32} (j : Nat) (hij : i = nI j) (hj : j < 61) (h_a : M a = some (Sum.inr (3, [.ref b, .int t]) : va_E)) (h_b : M b = some (Sum.inl (cI, 64, .inl (f)) : va_E)) : Met l yX3_number wsX3_number ({ frames := 0, cells := 0, slots := 0, locals := 0 }) (mm_Pc D A (mm_T cI cS cB cZ) M sz [.ref a, .int i]) (mm_Qi D A (fun r M1 => r = nm_g f j ∧ M1 = M)) 0 0 A := by
  refine mm_met (cc := cX3_number) (maxL := 2) (ret := (some .int)) (by decide) rfl (Nat.le_of_ble_eq_true rfl) ?_
  intro p e s m args below meth c hx hb hr hts hown hlk hin hml hsz hK hM hS ls hl
  subst hsz
  have hl : lv_has ls 2 [(0, .ref a), (1, .int i)] := hl
  refine lv_iload_n hx hb dX3_number_0 rfl (lv_at hl 1 rfl) ?_
  refine lv_if_lt (tgt := 15) hx hb dX3_number_1 (by decide) (fun c_1 => ?_) (fun c_1 => ?_)
  · exact absurd c_1 (by rw [hij]; exact nI_pos (by omega))
  refine lv_iload_n hx hb dX3_number_4 rfl (lv_at hl 1 rfl) ?_
  refine lv_aload_n hx hb dX3_number_5 rfl (lv_at hl 0 rfl) ?_
  refine mm_get (v := .ref b) (ci := 3) (C := RX3) (T := TX3) (N := 2) hx hb hts (in_X3_number_X3) hown hK hM h_a rfl 0 (by decide) (hts (.fieldLink RX3 9 "GroupLog$Sector" "bytes" "[I") (List.mem_of_getElem? (i := 1) rfl)) rfl dX3_number_6 ?_
  refine mm_alen (v := 64) hx hb hK hM 0 h_b rfl rfl dX3_number_9 ?_
  refine lv_iconst (v := 4) hx hb dX3_number_10 (by decide) ?_
  refine lv_isub hx hb dX3_number_11 ?_
  refine lv_topi (fun z2 ez2 => ?_)
  have ez2 : z2 = 60 := ez2.trans (by decide)
  subst ez2
  refine lv_icmp_le (tgt := 17) hx hb dX3_number_12 (by decide) (fun c_3 => ?_) (fun c_3 => ?_)
  rotate_left
  · exact absurd c_3 (fun h => h (by rw [hij]; exact nI_le (b := 60) (by omega) (by decide)))
  refine lv_aload_n hx hb dX3_number_17 rfl (lv_at hl 0 rfl) ?_
  refine mm_get (v := .ref b) (ci := 3) (C := RX3) (T := TX3) (N := 2) hx hb hts (in_X3_number_X3) hown hK hM h_a rfl 0 (by decide) (hts (.fieldLink RX3 9 "GroupLog$Sector" "bytes" "[I") (List.mem_of_getElem? (i := 1) rfl)) rfl dX3_number_18 ?_
  refine lv_iload_n hx hb dX3_number_21 rfl (lv_at hl 1 rfl) ?_
  refine mm_iald hx hb hK hM 0 h_b rfl (j := j) (hij) (by omega) (by decide) dX3_number_22 ?_
  refine lv_bipush (v := 24) hx hb dX3_number_23 (by decide) ?_
  refine lv_ishl hx hb dX3_number_25 ?_
  refine lv_aload_n hx hb dX3_number_26 rfl (lv_at hl 0 rfl) ?_
  refine mm_get (v := .ref b) (ci := 3) (C := RX3) (T := TX3) (N := 2) hx hb hts (in_X3_number_X3) hown hK hM h_a rfl 0 (by decide) (hts (.fieldLink RX3 9 "GroupLog$Sector" "bytes" "[I") (List.mem_of_getElem? (i := 1) rfl)) rfl dX3_number_27 ?_
  refine lv_iload_n hx hb dX3_number_30 rfl (lv_at hl 1 rfl) ?_
  refine lv_iconst (v := 1) hx hb dX3_number_31 (by decide) ?_
  refine lv_iadd hx hb dX3_number_32 ?_
  refine mm_iald hx hb hK hM 0 h_b rfl (j := j + 1) (by rw [hij]; exact nI_add j 1) (by omega) (by decide) dX3_number_33 ?_
  refine lv_bipush (v := 16) hx hb dX3_number_34 (by decide) ?_
  refine lv_ishl hx hb dX3_number_36 ?_
  refine lv_ior hx hb dX3_number_37 ?_
  refine lv_aload_n hx hb dX3_number_38 rfl (lv_at hl 0 rfl) ?_
  refine mm_get (v := .ref b) (ci := 3) (C := RX3) (T := TX3) (N := 2) hx hb hts (in_X3_number_X3) hown hK hM h_a rfl 0 (by decide) (hts (.fieldLink RX3 9 "GroupLog$Sector" "bytes" "[I") (List.mem_of_getElem? (i := 1) rfl)) rfl dX3_number_39 ?_
  refine lv_iload_n hx hb dX3_number_42 rfl (lv_at hl 1 rfl) ?_
  refine lv_iconst (v := 2) hx hb dX3_number_43 (by decide) ?_
  refine lv_iadd hx hb dX3_number_44 ?_
  refine mm_iald hx hb hK hM 0 h_b rfl (j := j + 2) (by rw [hij]; exact nI_add j 2) (by omega) (by decide) dX3_number_45 ?_
  refine lv_bipush (v := 8) hx hb dX3_number_46 (by decide) ?_
  refine lv_ishl hx hb dX3_number_48 ?_
  refine lv_ior hx hb dX3_number_49 ?_
  refine lv_aload_n hx hb dX3_number_50 rfl (lv_at hl 0 rfl) ?_
  refine mm_get (v := .ref b) (ci := 3) (C := RX3) (T := TX3) (N := 2) hx hb hts (in_X3_number_X3) hown hK hM h_a rfl 0 (by decide) (hts (.fieldLink RX3 9 "GroupLog$Sector" "bytes" "[I") (List.mem_of_getElem? (i := 1) rfl)) rfl dX3_number_51 ?_
  refine lv_iload_n hx hb dX3_number_54 rfl (lv_at hl 1 rfl) ?_
  refine lv_iconst (v := 3) hx hb dX3_number_55 (by decide) ?_
  refine lv_iadd hx hb dX3_number_56 ?_
  refine mm_iald hx hb hK hM 0 h_b rfl (j := j + 3) (by rw [hij]; exact nI_add j 3) (by omega) (by decide) dX3_number_57 ?_
  refine lv_ior hx hb dX3_number_58 ?_
  exact mm_iret hx hb hr hlk hM hS (⟨rfl, rfl⟩) dX3_number_59

set_option maxHeartbeats 4000000 in
set_option maxRecDepth 100000 in
/-- Sector.setNumber -/
theorem c_X3_setNumber {l : Launch} {D : va_G} {A : Nat → Prop} {cI cS cB cZ : ClassId} {M : Nat → Option va_E} {sz : Nat} {a b : Nat} {t : Int32} {f : Nat → Int32} {i : Int32} (j : Nat) (hij : i = nI j) (hj : j < 61) {n : Int32} (h_a : M a = some (Sum.inr (3, [.ref b, .int t]) : va_E)) (h_b : M b = some (Sum.inl (cI, 64, .inl (f)) : va_E)) : Met l yX3_setNumber wsX3_setNumber ({ frames := 1, cells := 0, slots := 0, locals := 22 }) (mm_Pc D A (mm_T cI cS cB cZ) M sz [.ref a, .int i, .int n]) (mm_Qv D A (fun M1 => M1 b = some (Sum.inl (cI, 64, .inl (nm_s f j n)) : va_E) ∧ ∀ q, q ≠ b → M1 q = M q)) 0 0 A := by
  refine mm_met (cc := cX3_setNumber) (maxL := 3) (ret := none) (by decide) rfl (Nat.le_of_ble_eq_true rfl) ?_
  intro p e s m args below meth c hx hb hr hts hown hlk hin hml hsz hK hM hS ls hl
  subst hsz
  have hl : lv_has ls 3 [(0, .ref a), (1, .int i), (2, .int n)] := hl
  refine lv_aload_n hx hb dX3_setNumber_0 rfl (lv_at hl 0 rfl) ?_
  refine lv_iload_n hx hb dX3_setNumber_1 rfl (lv_at hl 1 rfl) ?_
  refine lv_iload_n hx hb dX3_setNumber_2 rfl (lv_at hl 2 rfl) ?_
  refine lv_bipush (v := 24) hx hb dX3_setNumber_3 (by decide) ?_
  refine lv_iushr hx hb dX3_setNumber_5 rfl ?_
  refine mm_callv (mm_runV (As := [.int i, .int ((n).toUInt32 >>> ((24 : Int32).toUInt32 &&& Int32.toUInt32 31)).toInt32]) (rest := []) ⟨hx, hb, hml, hown, hts⟩ (c_X3_set j hij (by omega) h_a h_b) (cwV 2 hts gX3_setNumber_X3_set rfl rfl rfl (by decide +kernel) ⟨Nat.le_of_ble_eq_true rfl, Nat.le_of_ble_eq_true rfl⟩) hK hM h_a rfl rfl hl.1 rfl (Nat.le_of_ble_eq_true rfl) dX3_setNumber_6 ⟨Nat.le_of_ble_eq_true rfl, Nat.le_of_ble_eq_true rfl⟩) hS (fun _ h => h) (fun M H locs hp hM hS hz _ => ?_)
  obtain ⟨ha, ho0⟩ := hp
  have h_a := (ho0 a (mm_ne h_a h_b mm_oa)).trans h_a
  have h_b : _ = some (Sum.inl (cI, 64, .inl (upd (f) j (us_h n 24 &&& 255))) : va_E) := ha
  refine lv_aload_n hx hb dX3_setNumber_9 rfl (lv_at hl 0 rfl) ?_
  refine lv_iload_n hx hb dX3_setNumber_10 rfl (lv_at hl 1 rfl) ?_
  refine lv_iconst (v := 1) hx hb dX3_setNumber_11 (by decide) ?_
  refine lv_iadd hx hb dX3_setNumber_12 ?_
  refine lv_iload_n hx hb dX3_setNumber_13 rfl (lv_at hl 2 rfl) ?_
  refine lv_bipush (v := 16) hx hb dX3_setNumber_14 (by decide) ?_
  refine lv_iushr hx hb dX3_setNumber_16 rfl ?_
  refine mm_callv (mm_runV (As := [.int (i + 1), .int ((n).toUInt32 >>> ((16 : Int32).toUInt32 &&& Int32.toUInt32 31)).toInt32]) (rest := []) ⟨hx, hb, hml, hown, hts⟩ (c_X3_set (j + 1) (by rw [hij]; exact nI_add j 1) (by omega) h_a h_b) (cwV 2 hts gX3_setNumber_X3_set rfl rfl rfl (by decide +kernel) ⟨Nat.le_of_ble_eq_true rfl, Nat.le_of_ble_eq_true rfl⟩) hK hM h_a rfl rfl hl.1 rfl (Nat.le_of_ble_eq_true rfl) dX3_setNumber_17 ⟨Nat.le_of_ble_eq_true rfl, Nat.le_of_ble_eq_true rfl⟩) hS (fun _ h => h) (fun M H locs hp hM hS hz _ => ?_)
  obtain ⟨ha, ho1⟩ := hp
  have h_a := (ho1 a (mm_ne h_a h_b mm_oa)).trans h_a
  have h_b : _ = some (Sum.inl (cI, 64, .inl (upd (upd (f) j (us_h n 24 &&& 255)) (j + 1) (us_h n 16 &&& 255))) : va_E) := ha
  refine lv_aload_n hx hb dX3_setNumber_20 rfl (lv_at hl 0 rfl) ?_
  refine lv_iload_n hx hb dX3_setNumber_21 rfl (lv_at hl 1 rfl) ?_
  refine lv_iconst (v := 2) hx hb dX3_setNumber_22 (by decide) ?_
  refine lv_iadd hx hb dX3_setNumber_23 ?_
  refine lv_iload_n hx hb dX3_setNumber_24 rfl (lv_at hl 2 rfl) ?_
  refine lv_bipush (v := 8) hx hb dX3_setNumber_25 (by decide) ?_
  refine lv_iushr hx hb dX3_setNumber_27 rfl ?_
  refine mm_callv (mm_runV (As := [.int (i + 2), .int ((n).toUInt32 >>> ((8 : Int32).toUInt32 &&& Int32.toUInt32 31)).toInt32]) (rest := []) ⟨hx, hb, hml, hown, hts⟩ (c_X3_set (j + 2) (by rw [hij]; exact nI_add j 2) (by omega) h_a h_b) (cwV 2 hts gX3_setNumber_X3_set rfl rfl rfl (by decide +kernel) ⟨Nat.le_of_ble_eq_true rfl, Nat.le_of_ble_eq_true rfl⟩) hK hM h_a rfl rfl hl.1 rfl (Nat.le_of_ble_eq_true rfl) dX3_setNumber_28 ⟨Nat.le_of_ble_eq_true rfl, Nat.le_of_ble_eq_true rfl⟩) hS (fun _ h => h) (fun M H locs hp hM hS hz _ => ?_)
  obtain ⟨ha, ho2⟩ := hp
  have h_a := (ho2 a (mm_ne h_a h_b mm_oa)).trans h_a
  have h_b : _ = some (Sum.inl (cI, 64, .inl (upd (upd (upd (f) j (us_h n 24 &&& 255)) (j + 1) (us_h n 16 &&& 255)) (j + 2) (us_h n 8 &&& 255))) : va_E) := ha
  refine lv_aload_n hx hb dX3_setNumber_31 rfl (lv_at hl 0 rfl) ?_
  refine lv_iload_n hx hb dX3_setNumber_32 rfl (lv_at hl 1 rfl) ?_
  refine lv_iconst (v := 3) hx hb dX3_setNumber_33 (by decide) ?_
  refine lv_iadd hx hb dX3_setNumber_34 ?_
  refine lv_iload_n hx hb dX3_setNumber_35 rfl (lv_at hl 2 rfl) ?_
  refine mm_callv (mm_runV (As := [.int (i + 3), .int n]) (rest := []) ⟨hx, hb, hml, hown, hts⟩ (c_X3_set (j + 3) (by rw [hij]; exact nI_add j 3) (by omega) h_a h_b) (cwV 2 hts gX3_setNumber_X3_set rfl rfl rfl (by decide +kernel) ⟨Nat.le_of_ble_eq_true rfl, Nat.le_of_ble_eq_true rfl⟩) hK hM h_a rfl rfl hl.1 rfl (Nat.le_of_ble_eq_true rfl) dX3_setNumber_36 ⟨Nat.le_of_ble_eq_true rfl, Nat.le_of_ble_eq_true rfl⟩) hS (fun _ h => h) (fun M H locs hp hM hS hz _ => ?_)
  obtain ⟨ha, ho3⟩ := hp
  have h_a := (ho3 a (mm_ne h_a h_b mm_oa)).trans h_a
  have h_b : _ = some (Sum.inl (cI, 64, .inl (upd (upd (upd (upd (f) j (us_h n 24 &&& 255)) (j + 1) (us_h n 16 &&& 255)) (j + 2) (us_h n 8 &&& 255)) (j + 3) (n &&& 255))) : va_E) := ha
  exact mm_vret hx hb hr hlk hM hS (⟨h_b, fun q hq => by rw [ho3 q hq, ho2 q hq, ho1 q hq, ho0 q hq]⟩) dX3_setNumber_39

theorem in_X3_clear_X3 : ∀ w ∈ u_ws RX3 TX3 2, w ∈ wsX3_clear := fun w h => List.mem_cons_of_mem _ (List.mem_append_right _ h)
set_option maxHeartbeats 4000000 in
set_option maxRecDepth 100000 in
theorem lp_X3_clear {p : Program} {l : Launch} {e : Env} {s : State} {m : MethodId} {args : Array Value} {below : List Frame} {meth : Method} {c : Code} {Q : State → Prop} {D : va_G} {A : Nat → Prop} {cI cS cB cZ : ClassId} {cells slots : Nat} {R : Room} (hx : p.tables.exec = Jvm.exec) (hb : c.code = cX3_clear) (hts : ∀ w ∈ wsX3_clear, w.before args s = true) (hown : s.vm.findClass RX3 = some m.cls) (hml : c.maxLocals = 2) (hK : mm_K D (mm_T cI cS cB cZ) s) {a b : Nat} {t : Int32} :
    ∀ (n i : Nat), i + n = 64 → ∀ (M : Nat → Option va_E) (H : Heap) (locs : List Loc) (f : Nat → Int32), mm_W D A M H → va_S A s.heap H locs → M a = some (Sum.inr (3, [.ref b, .int t]) : va_E) → M b = some (Sum.inl (cI, 64, .inl (f)) : va_E) → (∀ k, k < i → f k = 0) → (∀ (M1 : Nat → Option va_E) (H1 : Heap) (locs1 : List Loc) (f1 : Nat → Int32) (ls1 : Array Slot), mm_W D A M1 H1 → va_S A s.heap H1 locs1 → M1 b = some (Sum.inl (cI, 64, .inl f1) : va_E) → (∀ k, k < 64 → f1 k = 0) → (∀ q, q ≠ b → M1 q = M q) → W p l e R s m args below meth c H1 locs1 cells slots Q (F0 m 24 ls1 [])) → ∀ ls : Array Slot, lv_has ls 2 [(0, .ref a), (1, .int (nI i))] → W p l e R s m args below meth c H locs cells slots Q (F0 m 2 ls []) := by
  intro n
  induction n with
  | zero =>
    intro i hi M H locs f hM hS h_a h_b hf kx ls hl
    obtain rfl : i = 64 := by omega
    refine lv_iload_n hx hb dX3_clear_2 rfl (lv_at hl 1 rfl) ?_
    refine lv_aload_n hx hb dX3_clear_3 rfl (lv_at hl 0 rfl) ?_
    refine mm_get (v := .ref b) (ci := 3) (C := RX3) (T := TX3) (N := 2) hx hb hts (in_X3_clear_X3) hown hK hM h_a rfl 0 (by decide) (hts (.fieldLink RX3 9 "GroupLog$Sector" "bytes" "[I") (List.mem_of_getElem? (i := 1) rfl)) rfl dX3_clear_4 ?_
    refine mm_alen (v := 64) hx hb hK hM 0 h_b rfl rfl dX3_clear_7 ?_
    refine lv_icmp_ge (tgt := 24) hx hb dX3_clear_8 (by decide) (fun c_1 => ?_) (fun c_1 => ?_)
    rotate_left
    · exact absurd c_1 (fun h => h (by decide))
    exact kx M H locs f ls hM hS h_b hf (fun q _ => rfl)
  | succ n ih =>
    intro i hi M H locs f hM hS h_a h_b hf kx ls hl
    refine lv_iload_n hx hb dX3_clear_2 rfl (lv_at hl 1 rfl) ?_
    refine lv_aload_n hx hb dX3_clear_3 rfl (lv_at hl 0 rfl) ?_
    refine mm_get (v := .ref b) (ci := 3) (C := RX3) (T := TX3) (N := 2) hx hb hts (in_X3_clear_X3) hown hK hM h_a rfl 0 (by decide) (hts (.fieldLink RX3 9 "GroupLog$Sector" "bytes" "[I") (List.mem_of_getElem? (i := 1) rfl)) rfl dX3_clear_4 ?_
    refine mm_alen (v := 64) hx hb hK hM 0 h_b rfl rfl dX3_clear_7 ?_
    refine lv_icmp_ge (tgt := 24) hx hb dX3_clear_8 (by decide) (fun c_2 => ?_) (fun c_2 => ?_)
    · exact absurd c_2 (nI_ge (b := 64) (by omega) (by decide))
    refine lv_aload_n hx hb dX3_clear_11 rfl (lv_at hl 0 rfl) ?_
    refine mm_get (v := .ref b) (ci := 3) (C := RX3) (T := TX3) (N := 2) hx hb hts (in_X3_clear_X3) hown hK hM h_a rfl 0 (by decide) (hts (.fieldLink RX3 9 "GroupLog$Sector" "bytes" "[I") (List.mem_of_getElem? (i := 1) rfl)) rfl dX3_clear_12 ?_
    refine lv_iload_n hx hb dX3_clear_15 rfl (lv_at hl 1 rfl) ?_
    refine lv_iconst (v := 0) hx hb dX3_clear_16 (by decide) ?_
    refine mm_iast hx hb hK hM hS 0 h_b rfl (j := i) (rfl) (by omega) (by decide) dX3_clear_17 (fun H locs M hM ha ho hS => ?_)
    have h_a := (ho a (mm_ne h_a h_b mm_oa)).trans h_a
    have h_b : _ = some (Sum.inl (cI, 64, .inl (upd (f) (i) (0))) : va_E) := ha
    refine lv_iinc (v := (nI (i + 1))) (lv' := [(1, .int (nI (i + 1))), (0, .ref a)]) hx hb dX3_clear_18 hl (k := 1) rfl (by show _ + (1 : Int32) = _; exact nI_1 i) (by decide) rfl (fun ls hl => ?_)
    refine lv_goto (tgt := 2) hx hb dX3_clear_21 (by decide) ?_
    exact ih (i + 1) (by omega) M H locs _ hM hS h_a h_b (fun k hk => by by_cases h : k = i <;> simp [upd, h]; exact hf k (by omega)) (fun M1 H1 locs1 f1 ls1 g1 g2 g3 g4 g5 => kx M1 H1 locs1 f1 ls1 g1 g2 g3 g4 (fun q hq => by rw [g5 q hq, ho q hq])) ls (lv_sub hl [1, 0] rfl)

set_option maxHeartbeats 4000000 in
set_option maxRecDepth 100000 in
/-- Sector.clear -/
theorem c_X3_clear {l : Launch} {D : va_G} {A : Nat → Prop} {cI cS cB cZ : ClassId} {M : Nat → Option va_E} {sz : Nat} {a b : Nat} {t : Int32} {f : Nat → Int32} (h_a : M a = some (Sum.inr (3, [.ref b, .int t]) : va_E)) (h_b : M b = some (Sum.inl (cI, 64, .inl (f)) : va_E)) : Met l yX3_clear wsX3_clear ({ frames := 0, cells := 0, slots := 0, locals := 0 }) (mm_Pc D A (mm_T cI cS cB cZ) M sz [.ref a]) (mm_Qv D A (fun M1 => M1 b = some (Sum.inl (cI, 64, .inl (fun _ => 0)) : va_E) ∧ ∀ q, q ≠ b → M1 q = M q)) 0 0 A := by
  refine mm_met (cc := cX3_clear) (maxL := 2) (ret := none) (by decide) rfl (Nat.le_of_ble_eq_true rfl) ?_
  intro p e s m args below meth c hx hb hr hts hown hlk hin hml hsz hK hM hS ls hl
  subst hsz
  have hl : lv_has ls 2 [(0, .ref a)] := hl
  refine lv_iconst (v := 0) hx hb dX3_clear_0 (by decide) ?_
  refine lv_istore_n (lv' := [(1, .int 0), (0, .ref a)]) hx hb dX3_clear_1 rfl hl (by decide) rfl (fun ls hl => ?_)
  refine lp_X3_clear (a := a) (b := b) (t := t) hx hb hts hown hml hK 64 0 rfl _ _ _ f hM hS h_a h_b (fun k hk => absurd hk (by omega)) (fun M1 H locs f1 ls hM hS h_b hf ho => ?_) ls (lv_sub hl [1, 0] rfl)
  obtain ⟨M2, hM, g1, g2⟩ := hM.ext h_b (fun _ => 0) hf
  exact mm_vret hx hb hr hlk hM hS (⟨g1, fun q hq => by rw [g2 q hq, ho q hq]⟩) dX3_clear_24
end
section
set_option maxHeartbeats 4000000 in
set_option maxRecDepth 100000 in
theorem lp_X3_bit {p : Program} {l : Launch} {e : Env} {s : State} {m : MethodId} {args : Array Value} {below : List Frame} {meth : Method} {c : Code} {Q : State → Prop} {D : va_G} {A : Nat → Prop} {cI cS cB cZ : ClassId} {cells slots : Nat} {R : Room} (hx : p.tables.exec = Jvm.exec) (hb : c.code = cX3_sumOver) (hts : ∀ w ∈ wsX3_sumOver, w.before args s = true) (hown : s.vm.findClass RX3 = some m.cls) (hml : c.maxLocals = 7) (hK : mm_K D (mm_T cI cS cB cZ) s) {a : Nat} {i : Int32} {H : Heap} {locs : List Loc} :
    ∀ (n k : Nat), k + n = 8 → ∀ (x : Int32) (ls : Array Slot), lv_has ls 7 [(0, .ref a), (3, .int 13), (4, .int x), (5, .int i), (6, .int (nI k))] → (∀ ls1 : Array Slot, lv_has ls1 7 [(0, .ref a), (3, .int 13), (4, .int (cr_n n x)), (5, .int i)] → W p l e R s m args below meth c H locs cells slots Q (F0 m 79 ls1 [])) → W p l e R s m args below meth c H locs cells slots Q (F0 m 42 ls []) := by
  intro n
  induction n with
  | zero =>
    intro k hk x ls hl kx
    obtain rfl : k = 8 := by omega
    refine lv_iload hx hb dX3_sumOver_42 (lv_at hl 4 rfl) ?_
    refine lv_bipush (v := 8) hx hb dX3_sumOver_44 (by decide) ?_
    refine lv_icmp_ge (tgt := 79) hx hb dX3_sumOver_46 (by decide) (fun c_1 => ?_) (fun c_1 => ?_)
    rotate_left
    · exact absurd c_1 (fun h => h (by decide))
    exact kx ls (lv_sub hl [0, 1, 2, 3] rfl)
  | succ n ih =>
    intro k hk x ls hl kx
    refine lv_iload hx hb dX3_sumOver_42 (lv_at hl 4 rfl) ?_
    refine lv_bipush (v := 8) hx hb dX3_sumOver_44 (by decide) ?_
    refine lv_icmp_ge (tgt := 79) hx hb dX3_sumOver_46 (by decide) (fun c_2 => ?_) (fun c_2 => ?_)
    · exact absurd c_2 (nI_ge (b := 8) (by omega) (by decide))
    refine lv_iload hx hb dX3_sumOver_49 (lv_at hl 2 rfl) ?_
    refine lv_iconst (v := 1) hx hb dX3_sumOver_51 (by decide) ?_
    refine lv_iand hx hb dX3_sumOver_52 ?_
    refine lv_iconst (v := 1) hx hb dX3_sumOver_53 (by decide) ?_
    refine lv_icmp_ne (tgt := 67) hx hb dX3_sumOver_54 (by decide) (fun c_3 => ?_) (fun c_3 => ?_)
    · skip
      refine lv_iload hx hb dX3_sumOver_67 (lv_at hl 2 rfl) ?_
      refine lv_iconst (v := 1) hx hb dX3_sumOver_69 (by decide) ?_
      refine lv_iushr hx hb dX3_sumOver_70 rfl ?_
      refine lv_topi (fun z4 ez4 => ?_)
      have ez4 : z4 = (cr_s x) := ez4.trans (by show _ = cr_s x; unfold cr_s; rw [if_neg c_3]; rfl)
      subst ez4
      refine lv_istore (lv' := [(4, .int (cr_s x)), (0, .ref a), (3, .int 13), (5, .int i), (6, .int (nI k))]) hx hb dX3_sumOver_71 hl (by decide) rfl (fun ls hl => ?_)
      refine lv_iinc (v := (nI (k + 1))) (lv' := [(6, .int (nI (k + 1))), (4, .int (cr_s x)), (0, .ref a), (3, .int 13), (5, .int i)]) hx hb dX3_sumOver_73 hl (k := 4) rfl (by show _ + (1 : Int32) = _; exact nI_1 k) (by decide) rfl (fun ls hl => ?_)
      refine lv_goto (tgt := 42) hx hb dX3_sumOver_76 (by decide) ?_
      exact ih (k + 1) (by omega) (cr_s x) ls (lv_sub hl [2, 3, 1, 4, 0] rfl) kx
    · skip
      refine lv_iload hx hb dX3_sumOver_57 (lv_at hl 2 rfl) ?_
      refine lv_iconst (v := 1) hx hb dX3_sumOver_59 (by decide) ?_
      refine lv_iushr hx hb dX3_sumOver_60 rfl ?_
      refine lv_ldc (v := (-306674912)) hx hb hown (hts (.constant RX3 31 (-306674912)) (List.mem_of_getElem? (i := 2) rfl)) dX3_sumOver_61 ?_
      refine lv_ixor hx hb dX3_sumOver_63 ?_
      refine lv_goto (tgt := 71) hx hb dX3_sumOver_64 (by decide) ?_
      refine lv_topi (fun z5 ez5 => ?_)
      have ez5 : z5 = (cr_s x) := ez5.trans (by show _ = cr_s x; unfold cr_s; rw [if_pos c_3]; rfl)
      subst ez5
      refine lv_istore (lv' := [(4, .int (cr_s x)), (0, .ref a), (3, .int 13), (5, .int i), (6, .int (nI k))]) hx hb dX3_sumOver_71 hl (by decide) rfl (fun ls hl => ?_)
      refine lv_iinc (v := (nI (k + 1))) (lv' := [(6, .int (nI (k + 1))), (4, .int (cr_s x)), (0, .ref a), (3, .int 13), (5, .int i)]) hx hb dX3_sumOver_73 hl (k := 4) rfl (by show _ + (1 : Int32) = _; exact nI_1 k) (by decide) rfl (fun ls hl => ?_)
      refine lv_goto (tgt := 42) hx hb dX3_sumOver_76 (by decide) ?_
      exact ih (k + 1) (by omega) (cr_s x) ls (lv_sub hl [2, 3, 1, 4, 0] rfl) kx

theorem in_X3_sumOver_X3 : ∀ w ∈ u_ws RX3 TX3 2, w ∈ wsX3_sumOver := fun w h => List.mem_cons_of_mem _ (List.mem_append_right _ h)
set_option maxHeartbeats 4000000 in
set_option maxRecDepth 100000 in
theorem lp_X3_sum {p : Program} {l : Launch} {e : Env} {s : State} {m : MethodId} {args : Array Value} {below : List Frame} {meth : Method} {c : Code} {Q : State → Prop} {D : va_G} {A : Nat → Prop} {cI cS cB cZ : ClassId} {cells slots : Nat} {R : Room} (hx : p.tables.exec = Jvm.exec) (hb : c.code = cX3_sumOver) (hts : ∀ w ∈ wsX3_sumOver, w.before args s = true) (hown : s.vm.findClass RX3 = some m.cls) (hml : c.maxLocals = 7) (hK : mm_K D (mm_T cI cS cB cZ) s) {a b : Nat} {t : Int32} {f : Nat → Int32} {H : Heap} {locs : List Loc} {M : Nat → Option va_E} (hM : mm_W D A M H) (h_a : M a = some (Sum.inr (3, [.ref b, .int t]) : va_E)) (h_b : M b = some (Sum.inl (cI, 64, .inl (f)) : va_E)) :
    ∀ (n j : Nat), j + n = 13 → ∀ (x : Int32) (ls : Array Slot), lv_has ls 7 [(0, .ref a), (3, .int 13), (4, .int x), (5, .int (nI j))] → (∀ ls1 : Array Slot, lv_has ls1 7 [(0, .ref a), (3, .int 13), (4, .int (cr_b f j n x)), (5, .int (nI 13))] → W p l e R s m args below meth c H locs cells slots Q (F0 m 85 ls1 [])) → W p l e R s m args below meth c H locs cells slots Q (F0 m 6 ls []) := by
  intro n
  induction n with
  | zero =>
    intro j hj x ls hl kx
    obtain rfl : j = 13 := by omega
    refine lv_iload hx hb dX3_sumOver_6 (lv_at hl 3 rfl) ?_
    refine lv_if_lt (tgt := 85) hx hb dX3_sumOver_8 (by decide) (fun c_1 => ?_) (fun c_1 => ?_)
    · exact absurd c_1 (nI_pos (by omega))
    refine lv_iload hx hb dX3_sumOver_11 (lv_at hl 3 rfl) ?_
    refine lv_iload_n hx hb dX3_sumOver_13 rfl (lv_at hl 1 rfl) ?_
    refine lv_icmp_ge (tgt := 85) hx hb dX3_sumOver_14 (by decide) (fun c_2 => ?_) (fun c_2 => ?_)
    rotate_left
    · exact absurd c_2 (fun h => h (by decide))
    exact kx ls hl
  | succ n ih =>
    intro j hj x ls hl kx
    refine lv_iload hx hb dX3_sumOver_6 (lv_at hl 3 rfl) ?_
    refine lv_if_lt (tgt := 85) hx hb dX3_sumOver_8 (by decide) (fun c_3 => ?_) (fun c_3 => ?_)
    · exact absurd c_3 (nI_pos (by omega))
    refine lv_iload hx hb dX3_sumOver_11 (lv_at hl 3 rfl) ?_
    refine lv_iload_n hx hb dX3_sumOver_13 rfl (lv_at hl 1 rfl) ?_
    refine lv_icmp_ge (tgt := 85) hx hb dX3_sumOver_14 (by decide) (fun c_4 => ?_) (fun c_4 => ?_)
    · exact absurd c_4 (nI_ge (b := 13) (by omega) (by decide))
    refine lv_iload hx hb dX3_sumOver_17 (lv_at hl 3 rfl) ?_
    refine lv_aload_n hx hb dX3_sumOver_19 rfl (lv_at hl 0 rfl) ?_
    refine mm_get (v := .ref b) (ci := 3) (C := RX3) (T := TX3) (N := 2) hx hb hts (in_X3_sumOver_X3) hown hK hM h_a rfl 0 (by decide) (hts (.fieldLink RX3 9 "GroupLog$Sector" "bytes" "[I") (List.mem_of_getElem? (i := 1) rfl)) rfl dX3_sumOver_20 ?_
    refine mm_alen (v := 64) hx hb hK hM 0 h_b rfl rfl dX3_sumOver_23 ?_
    refine lv_icmp_ge (tgt := 85) hx hb dX3_sumOver_24 (by decide) (fun c_5 => ?_) (fun c_5 => ?_)
    · exact absurd c_5 (nI_ge (b := 64) (by omega) (by decide))
    refine lv_iload hx hb dX3_sumOver_27 (lv_at hl 2 rfl) ?_
    refine lv_aload_n hx hb dX3_sumOver_29 rfl (lv_at hl 0 rfl) ?_
    refine mm_get (v := .ref b) (ci := 3) (C := RX3) (T := TX3) (N := 2) hx hb hts (in_X3_sumOver_X3) hown hK hM h_a rfl 0 (by decide) (hts (.fieldLink RX3 9 "GroupLog$Sector" "bytes" "[I") (List.mem_of_getElem? (i := 1) rfl)) rfl dX3_sumOver_30 ?_
    refine lv_iload hx hb dX3_sumOver_33 (lv_at hl 3 rfl) ?_
    refine mm_iald hx hb hK hM 0 h_b rfl (j := j) (rfl) (by omega) (by decide) dX3_sumOver_35 ?_
    refine lv_ixor hx hb dX3_sumOver_36 ?_
    refine lv_istore (lv' := [(4, .int (x ^^^ ((f) (j)))), (0, .ref a), (3, .int 13), (5, .int (nI j))]) hx hb dX3_sumOver_37 hl (by decide) rfl (fun ls hl => ?_)
    refine lv_iconst (v := 0) hx hb dX3_sumOver_39 (by decide) ?_
    refine lv_istore (lv' := [(6, .int 0), (4, .int (x ^^^ ((f) (j)))), (0, .ref a), (3, .int 13), (5, .int (nI j))]) hx hb dX3_sumOver_40 hl (by decide) rfl (fun ls hl => ?_)
    refine lp_X3_bit (A := A) (a := a) (cI := cI) (cS := cS) (cB := cB) (cZ := cZ) (D := D) hx hb hts hown hml hK 8 0 rfl _ ls (lv_sub hl [2, 3, 1, 4, 0] rfl) (fun ls hl => ?_)
    refine lv_iinc (v := (nI (j + 1))) (lv' := [(5, .int (nI (j + 1))), (0, .ref a), (3, .int 13), (4, .int (cr_n 8 (x ^^^ f j)))]) hx hb dX3_sumOver_79 hl (k := 3) rfl (by show _ + (1 : Int32) = _; exact nI_1 j) (by decide) rfl (fun ls hl => ?_)
    refine lv_goto (tgt := 6) hx hb dX3_sumOver_82 (by decide) ?_
    exact ih (j + 1) (by omega) _ ls (lv_sub hl [1, 2, 3, 0] rfl) kx

set_option maxHeartbeats 4000000 in
set_option maxRecDepth 100000 in
/-- Sector.sumOver, from 0 to 13 -/
theorem c_X3_sumOver {l : Launch} {D : va_G} {A : Nat → Prop} {cI cS cB cZ : ClassId} {M : Nat → Option va_E} {sz : Nat} {a b : Nat} {t : Int32} {f : Nat → Int32} {x : Int32} (h_a : M a = some (Sum.inr (3, [.ref b, .int t]) : va_E)) (h_b : M b = some (Sum.inl (cI, 64, .inl (f)) : va_E)) : Met l yX3_sumOver wsX3_sumOver ({ frames := 0, cells := 0, slots := 0, locals := 0 }) (mm_Pc D A (mm_T cI cS cB cZ) M sz [.ref a, .int x, .int 0, .int 13]) (mm_Qi D A (fun r M1 => r = cr_b f 0 13 x ∧ M1 = M)) 0 0 A := by
  refine mm_met (cc := cX3_sumOver) (maxL := 7) (ret := (some .int)) (by decide) rfl (Nat.le_of_ble_eq_true rfl) ?_
  intro p e s m args below meth c hx hb hr hts hown hlk hin hml hsz hK hM hS ls hl
  subst hsz
  have hl : lv_has ls 7 [(0, .ref a), (1, .int x), (2, .int 0), (3, .int 13)] := hl
  refine lv_iload_n hx hb dX3_sumOver_0 rfl (lv_at hl 1 rfl) ?_
  refine lv_istore (lv' := [(4, .int x), (0, .ref a), (1, .int x), (2, .int 0), (3, .int 13)]) hx hb dX3_sumOver_1 hl (by decide) rfl (fun ls hl => ?_)
  refine lv_iload_n hx hb dX3_sumOver_3 rfl (lv_at hl 3 rfl) ?_
  refine lv_istore (lv' := [(5, .int 0), (4, .int x), (0, .ref a), (1, .int x), (2, .int 0), (3, .int 13)]) hx hb dX3_sumOver_4 hl (by decide) rfl (fun ls hl => ?_)
  refine lp_X3_sum (t := t) hx hb hts hown hml hK hM h_a h_b 13 0 rfl _ ls (lv_sub hl [2, 5, 1, 0] rfl) (fun ls hl => ?_)
  refine lv_iload hx hb dX3_sumOver_85 (lv_at hl 2 rfl) ?_
  exact mm_iret hx hb hr hlk hM hS (⟨rfl, rfl⟩) dX3_sumOver_87

set_option maxHeartbeats 4000000 in
set_option maxRecDepth 100000 in
theorem c_X3_headSum {l : Launch} {D : va_G} {A : Nat → Prop} {cI cS cB cZ : ClassId} {M : Nat → Option va_E} {sz : Nat} {a b : Nat} {t : Int32} {f : Nat → Int32} (h_a : M a = some (Sum.inr (3, [.ref b, .int t]) : va_E)) (h_b : M b = some (Sum.inl (cI, 64, .inl (f)) : va_E)) : Met l yX3_headSum wsX3_headSum ({ frames := 1, cells := 0, slots := 0, locals := 26 }) (mm_Pc D A (mm_T cI cS cB cZ) M sz [.ref a]) (mm_Qi D A (fun r M1 => r = cr_b f 0 13 (-1) ^^^ (-1) ∧ M1 = M)) 0 0 A := by
  refine mm_met (cc := cX3_headSum) (maxL := 1) (ret := (some .int)) (by decide) rfl (Nat.le_of_ble_eq_true rfl) ?_
  intro p e s m args below meth c hx hb hr hts hown hlk hin hml hsz hK hM hS ls hl
  subst hsz
  have hl : lv_has ls 1 [(0, .ref a)] := hl
  refine lv_aload_n hx hb dX3_headSum_0 rfl (lv_at hl 0 rfl) ?_
  refine lv_iconst (v := (-1)) hx hb dX3_headSum_1 (by decide) ?_
  refine lv_iconst (v := 0) hx hb dX3_headSum_2 (by decide) ?_
  refine lv_bipush (v := 13) hx hb dX3_headSum_3 (by decide) ?_
  refine mm_calli (mm_runV (As := [.int (-1), .int 0, .int 13]) (rest := []) ⟨hx, hb, hml, hown, hts⟩ (c_X3_sumOver h_a h_b) (cwV 3 hts gX3_headSum_X3_sumOver rfl rfl rfl (by decide +kernel) ⟨Nat.le_of_ble_eq_true rfl, Nat.le_of_ble_eq_true rfl⟩) hK hM h_a rfl rfl hl.1 rfl (Nat.le_of_ble_eq_true rfl) dX3_headSum_5 ⟨Nat.le_of_ble_eq_true rfl, Nat.le_of_ble_eq_true rfl⟩) hS (fun _ h => h) (fun r1 M H locs hp hM hS hz _ => ?_)
  obtain ⟨rfl, hme⟩ := hp
  rw [hme] at hM
  refine lv_iconst (v := (-1)) hx hb dX3_headSum_8 (by decide) ?_
  refine lv_ixor hx hb dX3_headSum_9 ?_
  exact mm_iret hx hb hr hlk hM hS (⟨rfl, rfl⟩) dX3_headSum_10

set_option maxHeartbeats 4000000 in
set_option maxRecDepth 100000 in
/-- Sector.makeHead -/
theorem c_X3_makeHead {l : Launch} {D : va_G} {A : Nat → Prop} {cI cS cB cZ : ClassId} {M : Nat → Option va_E} {sz : Nat} {a b : Nat} {t : Int32} {f : Nat → Int32} {v sr rc pl : Int32} (h_a : M a = some (Sum.inr (3, [.ref b, .int t]) : va_E)) (h_b : M b = some (Sum.inl (cI, 64, .inl (f)) : va_E)) : Met l yX3_makeHead wsX3_makeHead ({ frames := 2, cells := 0, slots := 0, locals := 46 }) (mm_Pc D A (mm_T cI cS cB cZ) M sz [.ref a, .int v, .int sr, .int rc, .int pl]) (mm_Qv D A (fun M1 => M1 b = some (Sum.inl (cI, 64, .inl (hd_f v sr rc pl)) : va_E) ∧ ∀ q, q ≠ b → M1 q = M q)) 0 0 A := by
  refine mm_met (cc := cX3_makeHead) (maxL := 5) (ret := none) (by decide) rfl (Nat.le_of_ble_eq_true rfl) ?_
  intro p e s m args below meth c hx hb hr hts hown hlk hin hml hsz hK hM hS ls hl
  subst hsz
  have hl : lv_has ls 5 [(0, .ref a), (1, .int v), (2, .int sr), (3, .int rc), (4, .int pl)] := hl
  refine lv_aload_n hx hb dX3_makeHead_0 rfl (lv_at hl 0 rfl) ?_
  refine mm_callv (mm_runV (As := []) (rest := []) ⟨hx, hb, hml, hown, hts⟩ (c_X3_clear h_a h_b) (cwV 0 hts gX3_makeHead_X3_clear rfl rfl rfl (by decide +kernel) ⟨Nat.le_of_ble_eq_true rfl, Nat.le_of_ble_eq_true rfl⟩) hK hM h_a rfl rfl hl.1 rfl (Nat.le_of_ble_eq_true rfl) dX3_makeHead_1 ⟨Nat.le_of_ble_eq_true rfl, Nat.le_of_ble_eq_true rfl⟩) hS (fun _ h => h) (fun M H locs hp hM hS hz _ => ?_)
  obtain ⟨ha, ho0⟩ := hp
  have h_a := (ho0 a (mm_ne h_a h_b mm_oa)).trans h_a
  have h_b : _ = some (Sum.inl (cI, 64, .inl (fun _ => 0)) : va_E) := ha
  refine lv_aload_n hx hb dX3_makeHead_4 rfl (lv_at hl 0 rfl) ?_
  refine lv_iconst (v := 0) hx hb dX3_makeHead_5 (by decide) ?_
  refine lv_iload_n hx hb dX3_makeHead_6 rfl (lv_at hl 1 rfl) ?_
  refine mm_callv (mm_runV (As := [.int 0, .int v]) (rest := []) ⟨hx, hb, hml, hown, hts⟩ (c_X3_setNumber 0 rfl (by decide) h_a h_b) (cwV 2 hts gX3_makeHead_X3_setNumber rfl rfl rfl (by decide +kernel) ⟨Nat.le_of_ble_eq_true rfl, Nat.le_of_ble_eq_true rfl⟩) hK hM h_a rfl rfl hl.1 rfl (Nat.le_of_ble_eq_true rfl) dX3_makeHead_7 ⟨Nat.le_of_ble_eq_true rfl, Nat.le_of_ble_eq_true rfl⟩) hS (fun _ h => h) (fun M H locs hp hM hS hz _ => ?_)
  obtain ⟨ha, ho1⟩ := hp
  have h_a := (ho1 a (mm_ne h_a h_b mm_oa)).trans h_a
  have h_b : _ = some (Sum.inl (cI, 64, .inl (nm_s (fun _ => 0) 0 v)) : va_E) := ha
  refine lv_aload_n hx hb dX3_makeHead_10 rfl (lv_at hl 0 rfl) ?_
  refine lv_iconst (v := 4) hx hb dX3_makeHead_11 (by decide) ?_
  refine lv_iload_n hx hb dX3_makeHead_12 rfl (lv_at hl 2 rfl) ?_
  refine mm_callv (mm_runV (As := [.int 4, .int sr]) (rest := []) ⟨hx, hb, hml, hown, hts⟩ (c_X3_setNumber 4 rfl (by decide) h_a h_b) (cwV 2 hts gX3_makeHead_X3_setNumber rfl rfl rfl (by decide +kernel) ⟨Nat.le_of_ble_eq_true rfl, Nat.le_of_ble_eq_true rfl⟩) hK hM h_a rfl rfl hl.1 rfl (Nat.le_of_ble_eq_true rfl) dX3_makeHead_13 ⟨Nat.le_of_ble_eq_true rfl, Nat.le_of_ble_eq_true rfl⟩) hS (fun _ h => h) (fun M H locs hp hM hS hz _ => ?_)
  obtain ⟨ha, ho2⟩ := hp
  have h_a := (ho2 a (mm_ne h_a h_b mm_oa)).trans h_a
  have h_b : _ = some (Sum.inl (cI, 64, .inl (nm_s (nm_s (fun _ => 0) 0 v) 4 sr)) : va_E) := ha
  refine lv_aload_n hx hb dX3_makeHead_16 rfl (lv_at hl 0 rfl) ?_
  refine lv_bipush (v := 8) hx hb dX3_makeHead_17 (by decide) ?_
  refine lv_iload_n hx hb dX3_makeHead_19 rfl (lv_at hl 3 rfl) ?_
  refine mm_callv (mm_runV (As := [.int 8, .int rc]) (rest := []) ⟨hx, hb, hml, hown, hts⟩ (c_X3_setNumber 8 rfl (by decide) h_a h_b) (cwV 2 hts gX3_makeHead_X3_setNumber rfl rfl rfl (by decide +kernel) ⟨Nat.le_of_ble_eq_true rfl, Nat.le_of_ble_eq_true rfl⟩) hK hM h_a rfl rfl hl.1 rfl (Nat.le_of_ble_eq_true rfl) dX3_makeHead_20 ⟨Nat.le_of_ble_eq_true rfl, Nat.le_of_ble_eq_true rfl⟩) hS (fun _ h => h) (fun M H locs hp hM hS hz _ => ?_)
  obtain ⟨ha, ho3⟩ := hp
  have h_a := (ho3 a (mm_ne h_a h_b mm_oa)).trans h_a
  have h_b : _ = some (Sum.inl (cI, 64, .inl (nm_s (nm_s (nm_s (fun _ => 0) 0 v) 4 sr) 8 rc)) : va_E) := ha
  refine lv_aload_n hx hb dX3_makeHead_23 rfl (lv_at hl 0 rfl) ?_
  refine lv_bipush (v := 12) hx hb dX3_makeHead_24 (by decide) ?_
  refine lv_iload hx hb dX3_makeHead_26 (lv_at hl 4 rfl) ?_
  refine mm_callv (mm_runV (As := [.int 12, .int pl]) (rest := []) ⟨hx, hb, hml, hown, hts⟩ (c_X3_set 12 rfl (by decide) h_a h_b) (cwV 2 hts gX3_makeHead_X3_set rfl rfl rfl (by decide +kernel) ⟨Nat.le_of_ble_eq_true rfl, Nat.le_of_ble_eq_true rfl⟩) hK hM h_a rfl rfl hl.1 rfl (Nat.le_of_ble_eq_true rfl) dX3_makeHead_28 ⟨Nat.le_of_ble_eq_true rfl, Nat.le_of_ble_eq_true rfl⟩) hS (fun _ h => h) (fun M H locs hp hM hS hz _ => ?_)
  obtain ⟨ha, ho4⟩ := hp
  have h_a := (ho4 a (mm_ne h_a h_b mm_oa)).trans h_a
  have h_b : _ = some (Sum.inl (cI, 64, .inl (hd_p v sr rc pl)) : va_E) := ha
  refine lv_aload_n hx hb dX3_makeHead_31 rfl (lv_at hl 0 rfl) ?_
  refine lv_bipush (v := 13) hx hb dX3_makeHead_32 (by decide) ?_
  refine lv_aload_n hx hb dX3_makeHead_34 rfl (lv_at hl 0 rfl) ?_
  refine mm_calli (mm_runV (As := []) (rest := [.int 13, .ref a]) ⟨hx, hb, hml, hown, hts⟩ (c_X3_headSum h_a h_b) (cwV 0 hts gX3_makeHead_X3_headSum rfl rfl rfl (by decide +kernel) ⟨Nat.le_of_ble_eq_true rfl, Nat.le_of_ble_eq_true rfl⟩) hK hM h_a rfl rfl hl.1 rfl (Nat.le_of_ble_eq_true rfl) dX3_makeHead_35 ⟨Nat.le_of_ble_eq_true rfl, Nat.le_of_ble_eq_true rfl⟩) hS (fun _ h => h) (fun r1 M H locs hp hM hS hz _ => ?_)
  obtain ⟨rfl, hme⟩ := hp
  rw [hme] at hM
  refine mm_callv (mm_runV (As := [.int 13, .int (cr_b (hd_p v sr rc pl) 0 13 (-1) ^^^ (-1))]) (rest := []) ⟨hx, hb, hml, hown, hts⟩ (c_X3_setNumber 13 rfl (by decide) h_a h_b) (cwV 2 hts gX3_makeHead_X3_setNumber rfl rfl rfl (by decide +kernel) ⟨Nat.le_of_ble_eq_true rfl, Nat.le_of_ble_eq_true rfl⟩) hK hM h_a rfl rfl hl.1 rfl (Nat.le_of_ble_eq_true rfl) dX3_makeHead_38 ⟨Nat.le_of_ble_eq_true rfl, Nat.le_of_ble_eq_true rfl⟩) hS (fun _ h => h) (fun M H locs hp hM hS hz _ => ?_)
  obtain ⟨ha, ho5⟩ := hp
  have h_a := (ho5 a (mm_ne h_a h_b mm_oa)).trans h_a
  have h_b : _ = some (Sum.inl (cI, 64, .inl (hd_f v sr rc pl)) : va_E) := ha
  exact mm_vret hx hb hr hlk hM hS (⟨h_b, fun q hq => by rw [ho5 q hq, ho4 q hq, ho3 q hq, ho2 q hq, ho1 q hq, ho0 q hq]⟩) dX3_makeHead_41

set_option maxHeartbeats 4000000 in
set_option maxRecDepth 100000 in
theorem c_X3_headVersion {l : Launch} {D : va_G} {A : Nat → Prop} {cI cS cB cZ : ClassId} {M : Nat → Option va_E} {sz : Nat} {a b : Nat} {t : Int32} {f : Nat → Int32} (h_a : M a = some (Sum.inr (3, [.ref b, .int t]) : va_E)) (h_b : M b = some (Sum.inl (cI, 64, .inl (f)) : va_E)) : Met l yX3_headVersion wsX3_headVersion ({ frames := 1, cells := 0, slots := 0, locals := 21 }) (mm_Pc D A (mm_T cI cS cB cZ) M sz [.ref a]) (mm_Qi D A (fun r M1 => r = nm_g f 0 ∧ M1 = M)) 0 0 A := by
  refine mm_met (cc := cX3_headVersion) (maxL := 1) (ret := (some .int)) (by decide) rfl (Nat.le_of_ble_eq_true rfl) ?_
  intro p e s m args below meth c hx hb hr hts hown hlk hin hml hsz hK hM hS ls hl
  subst hsz
  have hl : lv_has ls 1 [(0, .ref a)] := hl
  refine lv_aload_n hx hb dX3_headVersion_0 rfl (lv_at hl 0 rfl) ?_
  refine lv_iconst (v := 0) hx hb dX3_headVersion_1 (by decide) ?_
  refine mm_calli (mm_runV (As := [.int 0]) (rest := []) ⟨hx, hb, hml, hown, hts⟩ (c_X3_number 0 rfl (by decide) h_a h_b) (cwV 1 hts gX3_headVersion_X3_number rfl rfl rfl (by decide +kernel) ⟨Nat.le_of_ble_eq_true rfl, Nat.le_of_ble_eq_true rfl⟩) hK hM h_a rfl rfl hl.1 rfl (Nat.le_of_ble_eq_true rfl) dX3_headVersion_2 ⟨Nat.le_of_ble_eq_true rfl, Nat.le_of_ble_eq_true rfl⟩) hS (fun _ h => h) (fun r1 M H locs hp hM hS hz _ => ?_)
  obtain ⟨rfl, hme⟩ := hp
  rw [hme] at hM
  exact mm_iret hx hb hr hlk hM hS (⟨rfl, rfl⟩) dX3_headVersion_5

set_option maxHeartbeats 4000000 in
set_option maxRecDepth 100000 in
theorem c_X3_headRecord {l : Launch} {D : va_G} {A : Nat → Prop} {cI cS cB cZ : ClassId} {M : Nat → Option va_E} {sz : Nat} {a b : Nat} {t : Int32} {f : Nat → Int32} (h_a : M a = some (Sum.inr (3, [.ref b, .int t]) : va_E)) (h_b : M b = some (Sum.inl (cI, 64, .inl (f)) : va_E)) : Met l yX3_headRecord wsX3_headRecord ({ frames := 1, cells := 0, slots := 0, locals := 21 }) (mm_Pc D A (mm_T cI cS cB cZ) M sz [.ref a]) (mm_Qi D A (fun r M1 => r = nm_g f 8 ∧ M1 = M)) 0 0 A := by
  refine mm_met (cc := cX3_headRecord) (maxL := 1) (ret := (some .int)) (by decide) rfl (Nat.le_of_ble_eq_true rfl) ?_
  intro p e s m args below meth c hx hb hr hts hown hlk hin hml hsz hK hM hS ls hl
  subst hsz
  have hl : lv_has ls 1 [(0, .ref a)] := hl
  refine lv_aload_n hx hb dX3_headRecord_0 rfl (lv_at hl 0 rfl) ?_
  refine lv_bipush (v := 8) hx hb dX3_headRecord_1 (by decide) ?_
  refine mm_calli (mm_runV (As := [.int 8]) (rest := []) ⟨hx, hb, hml, hown, hts⟩ (c_X3_number 8 rfl (by decide) h_a h_b) (cwV 1 hts gX3_headRecord_X3_number rfl rfl rfl (by decide +kernel) ⟨Nat.le_of_ble_eq_true rfl, Nat.le_of_ble_eq_true rfl⟩) hK hM h_a rfl rfl hl.1 rfl (Nat.le_of_ble_eq_true rfl) dX3_headRecord_3 ⟨Nat.le_of_ble_eq_true rfl, Nat.le_of_ble_eq_true rfl⟩) hS (fun _ h => h) (fun r1 M H locs hp hM hS hz _ => ?_)
  obtain ⟨rfl, hme⟩ := hp
  rw [hme] at hM
  exact mm_iret hx hb hr hlk hM hS (⟨rfl, rfl⟩) dX3_headRecord_6

set_option maxHeartbeats 4000000 in
set_option maxRecDepth 100000 in
theorem c_X3_headPlace {l : Launch} {D : va_G} {A : Nat → Prop} {cI cS cB cZ : ClassId} {M : Nat → Option va_E} {sz : Nat} {a b : Nat} {t : Int32} {f : Nat → Int32} (h_a : M a = some (Sum.inr (3, [.ref b, .int t]) : va_E)) (h_b : M b = some (Sum.inl (cI, 64, .inl (f)) : va_E)) : Met l yX3_headPlace wsX3_headPlace ({ frames := 1, cells := 0, slots := 0, locals := 21 }) (mm_Pc D A (mm_T cI cS cB cZ) M sz [.ref a]) (mm_Qi D A (fun r M1 => r = f 12 ∧ M1 = M)) 0 0 A := by
  refine mm_met (cc := cX3_headPlace) (maxL := 1) (ret := (some .int)) (by decide) rfl (Nat.le_of_ble_eq_true rfl) ?_
  intro p e s m args below meth c hx hb hr hts hown hlk hin hml hsz hK hM hS ls hl
  subst hsz
  have hl : lv_has ls 1 [(0, .ref a)] := hl
  refine lv_aload_n hx hb dX3_headPlace_0 rfl (lv_at hl 0 rfl) ?_
  refine lv_bipush (v := 12) hx hb dX3_headPlace_1 (by decide) ?_
  refine mm_calli (mm_runV (As := [.int 12]) (rest := []) ⟨hx, hb, hml, hown, hts⟩ (c_X3_get 12 rfl (by decide) h_a h_b) (cwV 1 hts gX3_headPlace_X3_get rfl rfl rfl (by decide +kernel) ⟨Nat.le_of_ble_eq_true rfl, Nat.le_of_ble_eq_true rfl⟩) hK hM h_a rfl rfl hl.1 rfl (Nat.le_of_ble_eq_true rfl) dX3_headPlace_3 ⟨Nat.le_of_ble_eq_true rfl, Nat.le_of_ble_eq_true rfl⟩) hS (fun _ h => h) (fun r1 M H locs hp hM hS hz _ => ?_)
  obtain ⟨rfl, hme⟩ := hp
  rw [hme] at hM
  exact mm_iret hx hb hr hlk hM hS (⟨rfl, rfl⟩) dX3_headPlace_6

theorem in_X3_isGoodHead_X3 : ∀ w ∈ u_ws RX3 TX3 2, w ∈ wsX3_isGoodHead := fun w h => List.mem_cons_of_mem _ (List.mem_append_right _ h)
set_option maxHeartbeats 4000000 in
set_option maxRecDepth 100000 in
/-- Sector.isGoodHead of a good one -/
theorem c_X3_good {l : Launch} {D : va_G} {A : Nat → Prop} {cI cS cB cZ : ClassId} {M : Nat → Option va_E} {sz : Nat} {a b : Nat} {f : Nat → Int32} (g1 : nm_g f 13 = cr_b f 0 13 (-1) ^^^ (-1)) (g2 : nm_g f 0 = 1) (g3 : nm_g f 8 = 1) (g4 : f 12 = 2) (h_a : M a = some (Sum.inr (3, [.ref b, .int 0]) : va_E)) (h_b : M b = some (Sum.inl (cI, 64, .inl (f)) : va_E)) : Met l yX3_isGoodHead wsX3_isGoodHead ({ frames := 2, cells := 0, slots := 0, locals := 46 }) (mm_Pc D A (mm_T cI cS cB cZ) M sz [.ref a]) (mm_Qi D A (fun r M1 => r = 1 ∧ M1 = M)) 0 0 A := by
  refine mm_met (cc := cX3_isGoodHead) (maxL := 1) (ret := (some .boolean)) (by decide) rfl (Nat.le_of_ble_eq_true rfl) ?_
  intro p e s m args below meth c hx hb hr hts hown hlk hin hml hsz hK hM hS ls hl
  subst hsz
  have hl : lv_has ls 1 [(0, .ref a)] := hl
  refine lv_aload_n hx hb dX3_isGoodHead_0 rfl (lv_at hl 0 rfl) ?_
  refine mm_get (v := .int 0) (ci := 3) (C := RX3) (T := TX3) (N := 2) hx hb hts (in_X3_isGoodHead_X3) hown hK hM h_a rfl 1 (by decide) (hts (.fieldLink RX3 15 "GroupLog$Sector" "isTorn" "Z") (List.mem_of_getElem? (i := 1) rfl)) rfl dX3_isGoodHead_1 ?_
  refine lv_if_ne (tgt := 65) hx hb dX3_isGoodHead_4 (by decide) (fun c_1 => ?_) (fun c_1 => ?_)
  · exact absurd c_1 (by decide)
  refine lv_aload_n hx hb dX3_isGoodHead_7 rfl (lv_at hl 0 rfl) ?_
  refine lv_bipush (v := 13) hx hb dX3_isGoodHead_8 (by decide) ?_
  refine mm_calli (mm_runV (As := [.int 13]) (rest := []) ⟨hx, hb, hml, hown, hts⟩ (c_X3_number 13 rfl (by decide) h_a h_b) (cwV 1 hts gX3_isGoodHead_X3_number rfl rfl rfl (by decide +kernel) ⟨Nat.le_of_ble_eq_true rfl, Nat.le_of_ble_eq_true rfl⟩) hK hM h_a rfl rfl hl.1 rfl (Nat.le_of_ble_eq_true rfl) dX3_isGoodHead_10 ⟨Nat.le_of_ble_eq_true rfl, Nat.le_of_ble_eq_true rfl⟩) hS (fun _ h => h) (fun r2 M H locs hp hM hS hz _ => ?_)
  obtain ⟨rfl, hme⟩ := hp
  rw [hme] at hM
  refine lv_aload_n hx hb dX3_isGoodHead_13 rfl (lv_at hl 0 rfl) ?_
  refine mm_calli (mm_runV (As := []) (rest := [.int (nm_g f 13)]) ⟨hx, hb, hml, hown, hts⟩ (c_X3_headSum h_a h_b) (cwV 0 hts gX3_isGoodHead_X3_headSum rfl rfl rfl (by decide +kernel) ⟨Nat.le_of_ble_eq_true rfl, Nat.le_of_ble_eq_true rfl⟩) hK hM h_a rfl rfl hl.1 rfl (Nat.le_of_ble_eq_true rfl) dX3_isGoodHead_14 ⟨Nat.le_of_ble_eq_true rfl, Nat.le_of_ble_eq_true rfl⟩) hS (fun _ h => h) (fun r3 M H locs hp hM hS hz _ => ?_)
  obtain ⟨rfl, hme⟩ := hp
  rw [hme] at hM
  refine lv_icmp_ne (tgt := 65) hx hb dX3_isGoodHead_17 (by decide) (fun c_4 => ?_) (fun c_4 => ?_)
  · exact absurd c_4 (fun h => h g1)
  refine lv_aload_n hx hb dX3_isGoodHead_20 rfl (lv_at hl 0 rfl) ?_
  refine mm_calli (mm_runV (As := []) (rest := []) ⟨hx, hb, hml, hown, hts⟩ (c_X3_headVersion h_a h_b) (cwV 0 hts gX3_isGoodHead_X3_headVersion rfl rfl rfl (by decide +kernel) ⟨Nat.le_of_ble_eq_true rfl, Nat.le_of_ble_eq_true rfl⟩) hK hM h_a rfl rfl hl.1 rfl (Nat.le_of_ble_eq_true rfl) dX3_isGoodHead_21 ⟨Nat.le_of_ble_eq_true rfl, Nat.le_of_ble_eq_true rfl⟩) hS (fun _ h => h) (fun r5 M H locs hp hM hS hz _ => ?_)
  obtain ⟨rfl, hme⟩ := hp
  rw [hme] at hM
  refine lv_if_eq (tgt := 65) hx hb dX3_isGoodHead_24 (by decide) (fun c_6 => ?_) (fun c_6 => ?_)
  · exact absurd c_6 (by rw [g2]; decide)
  refine lv_aload_n hx hb dX3_isGoodHead_27 rfl (lv_at hl 0 rfl) ?_
  refine mm_calli (mm_runV (As := []) (rest := []) ⟨hx, hb, hml, hown, hts⟩ (c_X3_headRecord h_a h_b) (cwV 0 hts gX3_isGoodHead_X3_headRecord rfl rfl rfl (by decide +kernel) ⟨Nat.le_of_ble_eq_true rfl, Nat.le_of_ble_eq_true rfl⟩) hK hM h_a rfl rfl hl.1 rfl (Nat.le_of_ble_eq_true rfl) dX3_isGoodHead_28 ⟨Nat.le_of_ble_eq_true rfl, Nat.le_of_ble_eq_true rfl⟩) hS (fun _ h => h) (fun r7 M H locs hp hM hS hz _ => ?_)
  obtain ⟨rfl, hme⟩ := hp
  rw [hme] at hM
  refine lv_iconst (v := 1) hx hb dX3_isGoodHead_31 (by decide) ?_
  refine lv_icmp_lt (tgt := 65) hx hb dX3_isGoodHead_32 (by decide) (fun c_8 => ?_) (fun c_8 => ?_)
  · exact absurd c_8 (by rw [g3]; decide)
  refine lv_aload_n hx hb dX3_isGoodHead_35 rfl (lv_at hl 0 rfl) ?_
  refine mm_calli (mm_runV (As := []) (rest := []) ⟨hx, hb, hml, hown, hts⟩ (c_X3_headRecord h_a h_b) (cwV 0 hts gX3_isGoodHead_X3_headRecord rfl rfl rfl (by decide +kernel) ⟨Nat.le_of_ble_eq_true rfl, Nat.le_of_ble_eq_true rfl⟩) hK hM h_a rfl rfl hl.1 rfl (Nat.le_of_ble_eq_true rfl) dX3_isGoodHead_36 ⟨Nat.le_of_ble_eq_true rfl, Nat.le_of_ble_eq_true rfl⟩) hS (fun _ h => h) (fun r9 M H locs hp hM hS hz _ => ?_)
  obtain ⟨rfl, hme⟩ := hp
  rw [hme] at hM
  refine lv_ldc (v := 1000000000) hx hb hown (hts (.constant RX3 55 (1000000000)) (List.mem_of_getElem? (i := 2) rfl)) dX3_isGoodHead_39 ?_
  refine lv_icmp_gt (tgt := 65) hx hb dX3_isGoodHead_41 (by decide) (fun c_10 => ?_) (fun c_10 => ?_)
  · exact absurd c_10 (by rw [g3]; decide)
  refine lv_aload_n hx hb dX3_isGoodHead_44 rfl (lv_at hl 0 rfl) ?_
  refine mm_calli (mm_runV (As := []) (rest := []) ⟨hx, hb, hml, hown, hts⟩ (c_X3_headPlace h_a h_b) (cwV 0 hts gX3_isGoodHead_X3_headPlace rfl rfl rfl (by decide +kernel) ⟨Nat.le_of_ble_eq_true rfl, Nat.le_of_ble_eq_true rfl⟩) hK hM h_a rfl rfl hl.1 rfl (Nat.le_of_ble_eq_true rfl) dX3_isGoodHead_45 ⟨Nat.le_of_ble_eq_true rfl, Nat.le_of_ble_eq_true rfl⟩) hS (fun _ h => h) (fun r11 M H locs hp hM hS hz _ => ?_)
  obtain ⟨rfl, hme⟩ := hp
  rw [hme] at hM
  refine lv_iconst (v := 2) hx hb dX3_isGoodHead_48 (by decide) ?_
  refine lv_icmp_lt (tgt := 65) hx hb dX3_isGoodHead_49 (by decide) (fun c_12 => ?_) (fun c_12 => ?_)
  · exact absurd c_12 (by rw [g4]; decide)
  refine lv_aload_n hx hb dX3_isGoodHead_52 rfl (lv_at hl 0 rfl) ?_
  refine mm_calli (mm_runV (As := []) (rest := []) ⟨hx, hb, hml, hown, hts⟩ (c_X3_headPlace h_a h_b) (cwV 0 hts gX3_isGoodHead_X3_headPlace rfl rfl rfl (by decide +kernel) ⟨Nat.le_of_ble_eq_true rfl, Nat.le_of_ble_eq_true rfl⟩) hK hM h_a rfl rfl hl.1 rfl (Nat.le_of_ble_eq_true rfl) dX3_isGoodHead_53 ⟨Nat.le_of_ble_eq_true rfl, Nat.le_of_ble_eq_true rfl⟩) hS (fun _ h => h) (fun r13 M H locs hp hM hS hz _ => ?_)
  obtain ⟨rfl, hme⟩ := hp
  rw [hme] at hM
  refine lv_bipush (v := 64) hx hb dX3_isGoodHead_56 (by decide) ?_
  refine lv_icmp_ge (tgt := 65) hx hb dX3_isGoodHead_58 (by decide) (fun c_14 => ?_) (fun c_14 => ?_)
  · exact absurd c_14 (by rw [g4]; decide)
  refine lv_iconst (v := 1) hx hb dX3_isGoodHead_61 (by decide) ?_
  refine lv_goto (tgt := 66) hx hb dX3_isGoodHead_62 (by decide) ?_
  exact mm_zret hx hb hr hlk (rfl) hM hS (⟨rfl, rfl⟩) dX3_isGoodHead_66

set_option maxHeartbeats 4000000 in
set_option maxRecDepth 100000 in
/-- Sector.isGoodHead of one whose sum is wrong -/
theorem c_X3_bad {l : Launch} {D : va_G} {A : Nat → Prop} {cI cS cB cZ : ClassId} {M : Nat → Option va_E} {sz : Nat} {a b : Nat} {f : Nat → Int32} (g1 : ¬ nm_g f 13 = cr_b f 0 13 (-1) ^^^ (-1)) (h_a : M a = some (Sum.inr (3, [.ref b, .int 0]) : va_E)) (h_b : M b = some (Sum.inl (cI, 64, .inl (f)) : va_E)) : Met l yX3_isGoodHead wsX3_isGoodHead ({ frames := 2, cells := 0, slots := 0, locals := 46 }) (mm_Pc D A (mm_T cI cS cB cZ) M sz [.ref a]) (mm_Qi D A (fun r M1 => r = 0 ∧ M1 = M)) 0 0 A := by
  refine mm_met (cc := cX3_isGoodHead) (maxL := 1) (ret := (some .boolean)) (by decide) rfl (Nat.le_of_ble_eq_true rfl) ?_
  intro p e s m args below meth c hx hb hr hts hown hlk hin hml hsz hK hM hS ls hl
  subst hsz
  have hl : lv_has ls 1 [(0, .ref a)] := hl
  refine lv_aload_n hx hb dX3_isGoodHead_0 rfl (lv_at hl 0 rfl) ?_
  refine mm_get (v := .int 0) (ci := 3) (C := RX3) (T := TX3) (N := 2) hx hb hts (in_X3_isGoodHead_X3) hown hK hM h_a rfl 1 (by decide) (hts (.fieldLink RX3 15 "GroupLog$Sector" "isTorn" "Z") (List.mem_of_getElem? (i := 1) rfl)) rfl dX3_isGoodHead_1 ?_
  refine lv_if_ne (tgt := 65) hx hb dX3_isGoodHead_4 (by decide) (fun c_1 => ?_) (fun c_1 => ?_)
  · exact absurd c_1 (by decide)
  refine lv_aload_n hx hb dX3_isGoodHead_7 rfl (lv_at hl 0 rfl) ?_
  refine lv_bipush (v := 13) hx hb dX3_isGoodHead_8 (by decide) ?_
  refine mm_calli (mm_runV (As := [.int 13]) (rest := []) ⟨hx, hb, hml, hown, hts⟩ (c_X3_number 13 rfl (by decide) h_a h_b) (cwV 1 hts gX3_isGoodHead_X3_number rfl rfl rfl (by decide +kernel) ⟨Nat.le_of_ble_eq_true rfl, Nat.le_of_ble_eq_true rfl⟩) hK hM h_a rfl rfl hl.1 rfl (Nat.le_of_ble_eq_true rfl) dX3_isGoodHead_10 ⟨Nat.le_of_ble_eq_true rfl, Nat.le_of_ble_eq_true rfl⟩) hS (fun _ h => h) (fun r2 M H locs hp hM hS hz _ => ?_)
  obtain ⟨rfl, hme⟩ := hp
  rw [hme] at hM
  refine lv_aload_n hx hb dX3_isGoodHead_13 rfl (lv_at hl 0 rfl) ?_
  refine mm_calli (mm_runV (As := []) (rest := [.int (nm_g f 13)]) ⟨hx, hb, hml, hown, hts⟩ (c_X3_headSum h_a h_b) (cwV 0 hts gX3_isGoodHead_X3_headSum rfl rfl rfl (by decide +kernel) ⟨Nat.le_of_ble_eq_true rfl, Nat.le_of_ble_eq_true rfl⟩) hK hM h_a rfl rfl hl.1 rfl (Nat.le_of_ble_eq_true rfl) dX3_isGoodHead_14 ⟨Nat.le_of_ble_eq_true rfl, Nat.le_of_ble_eq_true rfl⟩) hS (fun _ h => h) (fun r3 M H locs hp hM hS hz _ => ?_)
  obtain ⟨rfl, hme⟩ := hp
  rw [hme] at hM
  refine lv_icmp_ne (tgt := 65) hx hb dX3_isGoodHead_17 (by decide) (fun c_4 => ?_) (fun c_4 => ?_)
  rotate_left
  · exact absurd c_4 (g1)
  refine lv_iconst (v := 0) hx hb dX3_isGoodHead_65 (by decide) ?_
  exact mm_zret hx hb hr hlk (rfl) hM hS (⟨rfl, rfl⟩) dX3_isGoodHead_66

set_option maxHeartbeats 4000000 in
set_option maxRecDepth 100000 in
theorem lp_X3_take {p : Program} {l : Launch} {e : Env} {s : State} {m : MethodId} {args : Array Value} {below : List Frame} {meth : Method} {c : Code} {Q : State → Prop} {D : va_G} {A : Nat → Prop} {cI cS cB cZ : ClassId} (hx : p.tables.exec = Jvm.exec) (hb : c.code = cX3_takeBytes) (hts : ∀ w ∈ wsX3_takeBytes, w.before args s = true) (hown : s.vm.findClass RX3 = some m.cls) (hml : c.maxLocals = 4) (hK : mm_K D (mm_T cI cS cB cZ) s) {a b a2 b2 : Nat} {t t2 : Int32} {f2 : Nat → Int32} (hne : b ≠ b2) :
    ∀ (n i : Nat), i + n = 64 → ∀ (M : Nat → Option va_E) (H : Heap) (locs : List Loc) (f : Nat → Int32), mm_W D A M H → va_S A s.heap H locs → M a = some (Sum.inr (3, [.ref b, .int t]) : va_E) → M b = some (Sum.inl (cI, 64, .inl (f)) : va_E) → M a2 = some (Sum.inr (3, [.ref b2, .int t2]) : va_E) → M b2 = some (Sum.inl (cI, 64, .inl (f2)) : va_E) → (∀ (M1 : Nat → Option va_E) (H1 : Heap) (locs1 : List Loc) (f1 : Nat → Int32) (ls1 : Array Slot), mm_W D A M1 H1 → va_S A s.heap H1 locs1 → M1 b = some (Sum.inl (cI, 64, .inl f1) : va_E) → (∀ q, q ≠ b → M1 q = M q) → W p l e ({ frames := 1, cells := 0, slots := 0, locals := 22 } : Room) s m args below meth c H1 locs1 0 0 Q (F0 m 29 ls1 [])) → ∀ ls : Array Slot, lv_has ls 4 [(0, .ref a), (1, .ref a2), (2, .int 64), (3, .int (nI i))] → W p l e ({ frames := 1, cells := 0, slots := 0, locals := 22 } : Room) s m args below meth c H locs 0 0 Q (F0 m 2 ls []) := by
  intro n
  induction n with
  | zero =>
    intro i hi M H locs f hM hS h_a h_b h_a2 h_b2 kx ls hl
    obtain rfl : i = 64 := by omega
    refine lv_iload_n hx hb dX3_takeBytes_2 rfl (lv_at hl 3 rfl) ?_
    refine lv_iload_n hx hb dX3_takeBytes_3 rfl (lv_at hl 2 rfl) ?_
    refine lv_icmp_ge (tgt := 29) hx hb dX3_takeBytes_4 (by decide) (fun c_1 => ?_) (fun c_1 => ?_)
    rotate_left
    · exact absurd c_1 (fun h => h (by decide))
    exact kx M H locs f ls hM hS h_b (fun q _ => rfl)
  | succ n ih =>
    intro i hi M H locs f hM hS h_a h_b h_a2 h_b2 kx ls hl
    refine lv_iload_n hx hb dX3_takeBytes_2 rfl (lv_at hl 3 rfl) ?_
    refine lv_iload_n hx hb dX3_takeBytes_3 rfl (lv_at hl 2 rfl) ?_
    refine lv_icmp_ge (tgt := 29) hx hb dX3_takeBytes_4 (by decide) (fun c_2 => ?_) (fun c_2 => ?_)
    · exact absurd c_2 (nI_ge (b := 64) (by omega) (by decide))
    refine lv_iload_n hx hb dX3_takeBytes_7 rfl (lv_at hl 3 rfl) ?_
    refine lv_bipush (v := 64) hx hb dX3_takeBytes_8 (by decide) ?_
    refine lv_icmp_ge (tgt := 29) hx hb dX3_takeBytes_10 (by decide) (fun c_3 => ?_) (fun c_3 => ?_)
    · exact absurd c_3 (nI_ge (b := 64) (by omega) (by decide))
    refine lv_aload_n hx hb dX3_takeBytes_13 rfl (lv_at hl 0 rfl) ?_
    refine lv_iload_n hx hb dX3_takeBytes_14 rfl (lv_at hl 3 rfl) ?_
    refine lv_aload_n hx hb dX3_takeBytes_15 rfl (lv_at hl 1 rfl) ?_
    refine lv_iload_n hx hb dX3_takeBytes_16 rfl (lv_at hl 3 rfl) ?_
    refine mm_calli (mm_runV (As := [.int (nI i)]) (rest := [.int (nI i), .ref a]) ⟨hx, hb, hml, hown, hts⟩ (c_X3_get i rfl (by omega) h_a2 h_b2) (cwV 1 hts gX3_takeBytes_X3_get rfl rfl rfl (by decide +kernel) ⟨Nat.le_of_ble_eq_true rfl, Nat.le_of_ble_eq_true rfl⟩) hK hM h_a2 rfl rfl hl.1 rfl (Nat.le_of_ble_eq_true rfl) dX3_takeBytes_17 ⟨Nat.le_of_ble_eq_true rfl, Nat.le_of_ble_eq_true rfl⟩) hS (fun _ h => h) (fun r4 M H locs hp hM hS hz _ => ?_)
    obtain ⟨rfl, hme⟩ := hp
    rw [hme] at hM
    refine mm_callv (mm_runV (As := [.int (nI i), .int (f2 i)]) (rest := []) ⟨hx, hb, hml, hown, hts⟩ (c_X3_set i rfl (by omega) h_a h_b) (cwV 2 hts gX3_takeBytes_X3_set rfl rfl rfl (by decide +kernel) ⟨Nat.le_of_ble_eq_true rfl, Nat.le_of_ble_eq_true rfl⟩) hK hM h_a rfl rfl hl.1 rfl (Nat.le_of_ble_eq_true rfl) dX3_takeBytes_20 ⟨Nat.le_of_ble_eq_true rfl, Nat.le_of_ble_eq_true rfl⟩) hS (fun _ h => h) (fun M H locs hp hM hS hz _ => ?_)
    obtain ⟨ha, ho⟩ := hp
    have h_a := (ho a (mm_ne h_a h_b mm_oa)).trans h_a
    have h_a2 := (ho a2 (mm_ne h_a2 h_b mm_oa)).trans h_a2
    have h_b2 := (ho b2 (Ne.symm hne)).trans h_b2
    have h_b : _ = some (Sum.inl (cI, 64, .inl (upd f i (f2 i &&& 255))) : va_E) := ha
    refine lv_iinc (v := (nI (i + 1))) (lv' := [(3, .int (nI (i + 1))), (0, .ref a), (1, .ref a2), (2, .int 64)]) hx hb dX3_takeBytes_23 hl (k := 3) rfl (by show _ + (1 : Int32) = _; exact nI_1 i) (by decide) rfl (fun ls hl => ?_)
    refine lv_goto (tgt := 2) hx hb dX3_takeBytes_26 (by decide) ?_
    exact ih (i + 1) (by omega) M H locs _ hM hS h_a h_b h_a2 h_b2 (fun M1 H1 locs1 f1 ls1 g1 g2 g3 g5 => kx M1 H1 locs1 f1 ls1 g1 g2 g3 (fun q hq => by rw [g5 q hq, ho q hq])) ls (lv_sub hl [1, 2, 3, 0] rfl)

set_option maxHeartbeats 4000000 in
set_option maxRecDepth 100000 in
/-- Sector.takeBytes, all -/
theorem c_X3_takeBytes {l : Launch} {D : va_G} {A : Nat → Prop} {cI cS cB cZ : ClassId} {M : Nat → Option va_E} {sz : Nat} {a b a2 b2 : Nat} {t t2 : Int32} {f f2 : Nat → Int32} (hne : b ≠ b2) (h_a : M a = some (Sum.inr (3, [.ref b, .int t]) : va_E)) (h_b : M b = some (Sum.inl (cI, 64, .inl (f)) : va_E)) (h_a2 : M a2 = some (Sum.inr (3, [.ref b2, .int t2]) : va_E)) (h_b2 : M b2 = some (Sum.inl (cI, 64, .inl (f2)) : va_E)) : Met l yX3_takeBytes wsX3_takeBytes ({ frames := 1, cells := 0, slots := 0, locals := 22 }) (mm_Pc D A (mm_T cI cS cB cZ) M sz [.ref a, .ref a2, .int 64]) (mm_Qv D A (fun M1 => ∃ f1 : Nat → Int32, M1 b = some (Sum.inl (cI, 64, .inl f1) : va_E) ∧ ∀ q, q ≠ b → M1 q = M q)) 0 0 A := by
  refine mm_met (cc := cX3_takeBytes) (maxL := 4) (ret := none) (by decide) rfl (Nat.le_of_ble_eq_true rfl) ?_
  intro p e s m args below meth c hx hb hr hts hown hlk hin hml hsz hK hM hS ls hl
  subst hsz
  have hl : lv_has ls 4 [(0, .ref a), (1, .ref a2), (2, .int 64)] := hl
  refine lv_iconst (v := 0) hx hb dX3_takeBytes_0 (by decide) ?_
  refine lv_istore_n (lv' := [(3, .int 0), (0, .ref a), (1, .ref a2), (2, .int 64)]) hx hb dX3_takeBytes_1 rfl hl (by decide) rfl (fun ls hl => ?_)
  refine lp_X3_take (a := a) (t := t) hx hb hts hown hml hK hne 64 0 rfl _ _ _ f hM hS h_a h_b h_a2 h_b2 (fun M1 H locs f1 ls hM hS h_b ho => ?_) ls (lv_sub hl [1, 2, 3, 0] rfl)
  exact mm_vret hx hb hr hlk hM hS (⟨f1, h_b, ho⟩) dX3_takeBytes_29

theorem in_X3_takeWhole_X3 : ∀ w ∈ u_ws RX3 TX3 2, w ∈ wsX3_takeWhole := fun w h => List.mem_cons_of_mem _ (List.mem_append_right _ h)
set_option maxHeartbeats 4000000 in
set_option maxRecDepth 100000 in
/-- Sector.takeWhole -/
theorem c_X3_takeWhole {l : Launch} {D : va_G} {A : Nat → Prop} {cI cS cB cZ : ClassId} {M : Nat → Option va_E} {sz : Nat} {a b a2 b2 : Nat} {t t2 : Int32} {f f2 : Nat → Int32} (hne : b ≠ b2) (h_a : M a = some (Sum.inr (3, [.ref b, .int t]) : va_E)) (h_b : M b = some (Sum.inl (cI, 64, .inl (f)) : va_E)) (h_a2 : M a2 = some (Sum.inr (3, [.ref b2, .int t2]) : va_E)) (h_b2 : M b2 = some (Sum.inl (cI, 64, .inl (f2)) : va_E)) : Met l yX3_takeWhole wsX3_takeWhole ({ frames := 2, cells := 0, slots := 0, locals := 45 }) (mm_Pc D A (mm_T cI cS cB cZ) M sz [.ref a, .ref a2]) (mm_Qv D A (fun M1 => ∀ q, q ≠ a → q ≠ b → M1 q = M q)) 0 0 A := by
  refine mm_met (cc := cX3_takeWhole) (maxL := 2) (ret := none) (by decide) rfl (Nat.le_of_ble_eq_true rfl) ?_
  intro p e s m args below meth c hx hb hr hts hown hlk hin hml hsz hK hM hS ls hl
  subst hsz
  have hl : lv_has ls 2 [(0, .ref a), (1, .ref a2)] := hl
  refine lv_aload_n hx hb dX3_takeWhole_0 rfl (lv_at hl 0 rfl) ?_
  refine lv_aload_n hx hb dX3_takeWhole_1 rfl (lv_at hl 1 rfl) ?_
  refine lv_bipush (v := 64) hx hb dX3_takeWhole_2 (by decide) ?_
  refine mm_callv (mm_runV (As := [.ref a2, .int 64]) (rest := []) ⟨hx, hb, hml, hown, hts⟩ (c_X3_takeBytes hne h_a h_b h_a2 h_b2) (cwV 2 hts gX3_takeWhole_X3_takeBytes rfl rfl rfl (by decide +kernel) ⟨Nat.le_of_ble_eq_true rfl, Nat.le_of_ble_eq_true rfl⟩) hK hM h_a rfl rfl hl.1 rfl (Nat.le_of_ble_eq_true rfl) dX3_takeWhole_4 ⟨Nat.le_of_ble_eq_true rfl, Nat.le_of_ble_eq_true rfl⟩) hS (fun _ h => h) (fun M H locs hp hM hS hz _ => ?_)
  obtain ⟨f1, ha, ho0⟩ := hp
  have h_a := (ho0 a (mm_ne h_a h_b mm_oa)).trans h_a
  have h_b : _ = some (Sum.inl (cI, 64, .inl (f1)) : va_E) := ha
  refine lv_aload_n hx hb dX3_takeWhole_7 rfl (lv_at hl 0 rfl) ?_
  refine lv_iconst (v := 0) hx hb dX3_takeWhole_8 (by decide) ?_
  refine mm_put (v := .int 0) (ci := 3) (C := RX3) (T := TX3) (N := 2) hx hb hts (in_X3_takeWhole_X3) tyX3 tyX3_ok nmX3 hown hK hM hS h_a rfl 1 (by decide) (hts (.fieldLink RX3 15 "GroupLog$Sector" "isTorn" "Z") (List.mem_of_getElem? (i := 1) rfl)) rfl rfl rfl (Nat.le_of_ble_eq_true rfl) dX3_takeWhole_9 (fun H locs M hM ha ho hS => ?_)
  have h_b := (ho b (mm_ne h_b h_a mm_ao)).trans h_b
  have h_a : _ = some (Sum.inr (3, [.ref b, .int 0]) : va_E) := ha
  exact mm_vret hx hb hr hlk hM hS (fun q h1 h2 => by rw [ho q h1, ho0 q h2]) dX3_takeWhole_12
end
section
theorem in_X1_init_X1 : ∀ w ∈ u_ws RX1 TX1 4, w ∈ wsX1_init := fun w h => List.mem_cons_of_mem _ (List.mem_append_right _ h)
set_option maxHeartbeats 4000000 in
set_option maxRecDepth 100000 in
/-- Queue() -/
theorem c_X1_init {l : Launch} {D : va_G} {A : Nat → Prop} {cI cS cB cZ : ClassId} {M : Nat → Option va_E} {sz : Nat} (hA : ∀ q, sz ≤ q → A q) {a : Nat} (h_a : M a = some (Sum.inr (1, [.null, .int 0, .int 0, .int 0]) : va_E)) : Met l yX1_init wsX1_init ({ frames := 1, cells := 1, slots := 606, locals := 20 }) (mm_Pc D A (mm_T cI cS cB cZ) M sz [.ref a]) (mm_Qv D A (fun M1 => ∃ qb : Nat, M1 a = some (Sum.inr (1, [.ref qb, .int 0, .int 0, .int 0]) : va_E) ∧ M1 qb = some (Sum.inl (cI, 606, .inl (fun _ => 0)) : va_E) ∧ ∀ q, M q ≠ none → q ≠ a → M1 q = M q)) 1 606 A := by
  refine mm_met (cc := cX1_init) (maxL := 1) (ret := none) (by decide) rfl (Nat.le_of_ble_eq_true rfl) ?_
  intro p e s m args below meth c hx hb hr hts hown hlk hin hml hsz hK hM hS ls hl
  subst hsz
  have hl : lv_has ls 1 [(0, .ref a)] := hl
  refine lv_aload_n hx hb dX1_init_0 rfl (lv_at hl 0 rfl) ?_
  refine W.objInit hx hb hown (hts (.methodLink RX1 3 objectInit) (List.mem_of_getElem? (i := 1) rfl)) (hts (.instanceMethod objectInit) (List.mem_of_getElem? (i := 2) rfl)) (hts _ (List.mem_of_getElem? (i := 3) rfl)) rfl (by rw [hml]; exact hl.1) rfl dX1_init_1 (Nat.le_of_ble_eq_true rfl) (Nat.le_of_ble_eq_true rfl) ?_
  refine W.eq (g2 := F0 m 4 ls []) rfl ?_
  refine lv_aload_n hx hb dX1_init_4 rfl (lv_at hl 0 rfl) ?_
  refine lv_sipush (v := 606) hx hb dX1_init_5 (by decide) ?_
  refine mm_newa (atype := .int) (ty := .int) (N' := 606) hx hb (hts (.arrayClass .int) (List.mem_of_getElem? (i := 4) rfl)) rfl hK hM hS hA 0 rfl (fun _ h => by cases h) (mm_z_int 606) (by decide +kernel) (by decide +kernel) (by decide +kernel) (Nat.le_of_ble_eq_true rfl) (Nat.le_of_ble_eq_true rfl) dX1_init_8 (fun qb H M hM ha hn ho hS => ?_)
  have n_a_qb : a ≠ qb := mm_nn h_a hn
  have h_a := (ho a n_a_qb).trans h_a
  have h_qb : _ = some (Sum.inl (cI, 606, .inl (fun _ => 0)) : va_E) := ha
  refine W.widen (k := 1) (n := 606) (by omega) (by omega) ?_
  have hn0 := hn
  have hoB := ho
  refine mm_putF (v := .ref qb) (ci := 1) (C := RX1) (T := TX1) (N := 4) hx hb hts (in_X1_init_X1) tyX1 tyX1_ok nmX1 hown hK hM hS h_a rfl 0 (by decide) (hts (.fieldLink RX1 9 "GroupLog$Queue" "bytes" "[I") (List.mem_of_getElem? (i := 5) rfl)) rfl hin rfl rfl rfl (Nat.le_of_ble_eq_true rfl) dX1_init_10 (fun H locs M hM ha ho hS => ?_)
  have h_qb := (ho qb (Ne.symm n_a_qb)).trans h_qb
  have h_a : _ = some (Sum.inr (1, [.ref qb, .int 0, .int 0, .int 0]) : va_E) := ha
  have ho0 := ho
  refine lv_aload_n hx hb dX1_init_13 rfl (lv_at hl 0 rfl) ?_
  refine lv_iconst (v := 0) hx hb dX1_init_14 (by decide) ?_
  refine mm_put (v := .int 0) (ci := 1) (C := RX1) (T := TX1) (N := 4) hx hb hts (in_X1_init_X1) tyX1 tyX1_ok nmX1 hown hK hM hS h_a rfl 1 (by decide) (hts (.fieldLink RX1 15 "GroupLog$Queue" "length" "I") (List.mem_of_getElem? (i := 6) rfl)) rfl rfl rfl (Nat.le_of_ble_eq_true rfl) dX1_init_15 (fun H locs M hM ha ho hS => ?_)
  have h_qb := (ho qb (Ne.symm n_a_qb)).trans h_qb
  have h_a : _ = some (Sum.inr (1, [.ref qb, .int 0, .int 0, .int 0]) : va_E) := ha
  have ho1 := ho
  refine lv_aload_n hx hb dX1_init_18 rfl (lv_at hl 0 rfl) ?_
  refine lv_iconst (v := 0) hx hb dX1_init_19 (by decide) ?_
  refine mm_put (v := .int 0) (ci := 1) (C := RX1) (T := TX1) (N := 4) hx hb hts (in_X1_init_X1) tyX1 tyX1_ok nmX1 hown hK hM hS h_a rfl 2 (by decide) (hts (.fieldLink RX1 19 "GroupLog$Queue" "records" "I") (List.mem_of_getElem? (i := 7) rfl)) rfl rfl rfl (Nat.le_of_ble_eq_true rfl) dX1_init_20 (fun H locs M hM ha ho hS => ?_)
  have h_qb := (ho qb (Ne.symm n_a_qb)).trans h_qb
  have h_a : _ = some (Sum.inr (1, [.ref qb, .int 0, .int 0, .int 0]) : va_E) := ha
  have ho2 := ho
  refine lv_aload_n hx hb dX1_init_23 rfl (lv_at hl 0 rfl) ?_
  refine lv_iconst (v := 0) hx hb dX1_init_24 (by decide) ?_
  refine mm_put (v := .int 0) (ci := 1) (C := RX1) (T := TX1) (N := 4) hx hb hts (in_X1_init_X1) tyX1 tyX1_ok nmX1 hown hK hM hS h_a rfl 3 (by decide) (hts (.fieldLink RX1 22 "GroupLog$Queue" "waited" "I") (List.mem_of_getElem? (i := 8) rfl)) rfl rfl rfl (Nat.le_of_ble_eq_true rfl) dX1_init_25 (fun H locs M hM ha ho hS => ?_)
  have h_qb := (ho qb (Ne.symm n_a_qb)).trans h_qb
  have h_a : _ = some (Sum.inr (1, [.ref qb, .int 0, .int 0, .int 0]) : va_E) := ha
  have ho3 := ho
  exact mm_vret hx hb hr hlk hM hS (⟨qb, h_a, h_qb, fun q hq hqa => by rw [ho3 q hqa, ho2 q hqa, ho1 q hqa, ho0 q hqa, hoB q (fun e => hq (by rw [e]; exact hn0))]⟩) dX1_init_28

theorem in_X2_init_X2 : ∀ w ∈ u_ws RX2 TX2 5, w ∈ wsX2_init := fun w h => List.mem_cons_of_mem _ (List.mem_append_right _ h)
set_option maxHeartbeats 4000000 in
set_option maxRecDepth 100000 in
/-- Reader() -/
theorem c_X2_init {l : Launch} {D : va_G} {A : Nat → Prop} {cI cS cB cZ : ClassId} {M : Nat → Option va_E} {sz : Nat} (hA : ∀ q, sz ≤ q → A q) {a : Nat} (h_a : M a = some (Sum.inr (2, [.null, .int 0, .int 0, .int 0, .int 0]) : va_E)) : Met l yX2_init wsX2_init ({ frames := 1, cells := 1, slots := 6, locals := 20 }) (mm_Pc D A (mm_T cI cS cB cZ) M sz [.ref a]) (mm_Qv D A (fun M1 => ∃ qb : Nat, M1 a = some (Sum.inr (2, [.ref qb, .int 0, .int 2, .int 0, .int 0]) : va_E) ∧ M1 qb = some (Sum.inl (cI, 6, .inl (fun _ => 0)) : va_E) ∧ ∀ q, M q ≠ none → q ≠ a → M1 q = M q)) 1 6 A := by
  refine mm_met (cc := cX2_init) (maxL := 1) (ret := none) (by decide) rfl (Nat.le_of_ble_eq_true rfl) ?_
  intro p e s m args below meth c hx hb hr hts hown hlk hin hml hsz hK hM hS ls hl
  subst hsz
  have hl : lv_has ls 1 [(0, .ref a)] := hl
  refine lv_aload_n hx hb dX2_init_0 rfl (lv_at hl 0 rfl) ?_
  refine W.objInit hx hb hown (hts (.methodLink RX2 3 objectInit) (List.mem_of_getElem? (i := 1) rfl)) (hts (.instanceMethod objectInit) (List.mem_of_getElem? (i := 2) rfl)) (hts _ (List.mem_of_getElem? (i := 3) rfl)) rfl (by rw [hml]; exact hl.1) rfl dX2_init_1 (Nat.le_of_ble_eq_true rfl) (Nat.le_of_ble_eq_true rfl) ?_
  refine W.eq (g2 := F0 m 4 ls []) rfl ?_
  refine lv_aload_n hx hb dX2_init_4 rfl (lv_at hl 0 rfl) ?_
  refine lv_bipush (v := 6) hx hb dX2_init_5 (by decide) ?_
  refine mm_newa (atype := .int) (ty := .int) (N' := 6) hx hb (hts (.arrayClass .int) (List.mem_of_getElem? (i := 4) rfl)) rfl hK hM hS hA 0 rfl (fun _ h => by cases h) (mm_z_int 6) (by decide +kernel) (by decide +kernel) (by decide +kernel) (Nat.le_of_ble_eq_true rfl) (Nat.le_of_ble_eq_true rfl) dX2_init_7 (fun qb H M hM ha hn ho hS => ?_)
  have n_a_qb : a ≠ qb := mm_nn h_a hn
  have h_a := (ho a n_a_qb).trans h_a
  have h_qb : _ = some (Sum.inl (cI, 6, .inl (fun _ => 0)) : va_E) := ha
  refine W.widen (k := 1) (n := 6) (by omega) (by omega) ?_
  have hn0 := hn
  have hoB := ho
  refine mm_putF (v := .ref qb) (ci := 2) (C := RX2) (T := TX2) (N := 5) hx hb hts (in_X2_init_X2) tyX2 tyX2_ok nmX2 hown hK hM hS h_a rfl 0 (by decide) (hts (.fieldLink RX2 9 "GroupLog$Reader" "front" "[I") (List.mem_of_getElem? (i := 5) rfl)) rfl hin rfl rfl rfl (Nat.le_of_ble_eq_true rfl) dX2_init_9 (fun H locs M hM ha ho hS => ?_)
  have h_qb := (ho qb (Ne.symm n_a_qb)).trans h_qb
  have h_a : _ = some (Sum.inr (2, [.ref qb, .int 0, .int 0, .int 0, .int 0]) : va_E) := ha
  have ho0 := ho
  refine lv_aload_n hx hb dX2_init_12 rfl (lv_at hl 0 rfl) ?_
  refine lv_iconst (v := 0) hx hb dX2_init_13 (by decide) ?_
  refine mm_put (v := .int 0) (ci := 2) (C := RX2) (T := TX2) (N := 5) hx hb hts (in_X2_init_X2) tyX2 tyX2_ok nmX2 hown hK hM hS h_a rfl 1 (by decide) (hts (.fieldLink RX2 15 "GroupLog$Reader" "have" "I") (List.mem_of_getElem? (i := 6) rfl)) rfl rfl rfl (Nat.le_of_ble_eq_true rfl) dX2_init_14 (fun H locs M hM ha ho hS => ?_)
  have h_qb := (ho qb (Ne.symm n_a_qb)).trans h_qb
  have h_a : _ = some (Sum.inr (2, [.ref qb, .int 0, .int 0, .int 0, .int 0]) : va_E) := ha
  have ho1 := ho
  refine lv_aload_n hx hb dX2_init_17 rfl (lv_at hl 0 rfl) ?_
  refine lv_iconst (v := 2) hx hb dX2_init_18 (by decide) ?_
  refine mm_put (v := .int 2) (ci := 2) (C := RX2) (T := TX2) (N := 5) hx hb hts (in_X2_init_X2) tyX2 tyX2_ok nmX2 hown hK hM hS h_a rfl 2 (by decide) (hts (.fieldLink RX2 19 "GroupLog$Reader" "beginPlace" "I") (List.mem_of_getElem? (i := 7) rfl)) rfl rfl rfl (Nat.le_of_ble_eq_true rfl) dX2_init_19 (fun H locs M hM ha ho hS => ?_)
  have h_qb := (ho qb (Ne.symm n_a_qb)).trans h_qb
  have h_a : _ = some (Sum.inr (2, [.ref qb, .int 0, .int 2, .int 0, .int 0]) : va_E) := ha
  have ho2 := ho
  refine lv_aload_n hx hb dX2_init_22 rfl (lv_at hl 0 rfl) ?_
  refine lv_iconst (v := 0) hx hb dX2_init_23 (by decide) ?_
  refine mm_put (v := .int 0) (ci := 2) (C := RX2) (T := TX2) (N := 5) hx hb hts (in_X2_init_X2) tyX2 tyX2_ok nmX2 hown hK hM hS h_a rfl 3 (by decide) (hts (.fieldLink RX2 22 "GroupLog$Reader" "beginOffset" "I") (List.mem_of_getElem? (i := 8) rfl)) rfl rfl rfl (Nat.le_of_ble_eq_true rfl) dX2_init_24 (fun H locs M hM ha ho hS => ?_)
  have h_qb := (ho qb (Ne.symm n_a_qb)).trans h_qb
  have h_a : _ = some (Sum.inr (2, [.ref qb, .int 0, .int 2, .int 0, .int 0]) : va_E) := ha
  have ho3 := ho
  refine lv_aload_n hx hb dX2_init_27 rfl (lv_at hl 0 rfl) ?_
  refine lv_iconst (v := 0) hx hb dX2_init_28 (by decide) ?_
  refine mm_put (v := .int 0) (ci := 2) (C := RX2) (T := TX2) (N := 5) hx hb hts (in_X2_init_X2) tyX2 tyX2_ok nmX2 hown hK hM hS h_a rfl 4 (by decide) (hts (.fieldLink RX2 25 "GroupLog$Reader" "ended" "Z") (List.mem_of_getElem? (i := 9) rfl)) rfl rfl rfl (Nat.le_of_ble_eq_true rfl) dX2_init_29 (fun H locs M hM ha ho hS => ?_)
  have h_qb := (ho qb (Ne.symm n_a_qb)).trans h_qb
  have h_a : _ = some (Sum.inr (2, [.ref qb, .int 0, .int 2, .int 0, .int 0]) : va_E) := ha
  have ho4 := ho
  exact mm_vret hx hb hr hlk hM hS (⟨qb, h_a, h_qb, fun q hq hqa => by rw [ho4 q hqa, ho3 q hqa, ho2 q hqa, ho1 q hqa, ho0 q hqa, hoB q (fun e => hq (by rw [e]; exact hn0))]⟩) dX2_init_32

theorem in_X1_empty_X1 : ∀ w ∈ u_ws RX1 TX1 4, w ∈ wsX1_empty := fun w h => List.mem_cons_of_mem _ (List.mem_append_right _ h)
set_option maxHeartbeats 4000000 in
set_option maxRecDepth 100000 in
theorem c_X1_empty {l : Launch} {D : va_G} {A : Nat → Prop} {cI cS cB cZ : ClassId} {M : Nat → Option va_E} {sz : Nat} {a : Nat} {y : Value} {k1 k2 k3 : Int32} (h_a : M a = some (Sum.inr (1, [y, .int k1, .int k2, .int k3]) : va_E)) : Met l yX1_empty wsX1_empty ({ frames := 0, cells := 0, slots := 0, locals := 0 }) (mm_Pc D A (mm_T cI cS cB cZ) M sz [.ref a]) (mm_Qv D A (fun M1 => M1 a = some (Sum.inr (1, [y, .int 0, .int 0, .int 0]) : va_E) ∧ ∀ q, q ≠ a → M1 q = M q)) 0 0 A := by
  refine mm_met (cc := cX1_empty) (maxL := 1) (ret := none) (by decide) rfl (Nat.le_of_ble_eq_true rfl) ?_
  intro p e s m args below meth c hx hb hr hts hown hlk hin hml hsz hK hM hS ls hl
  subst hsz
  have hl : lv_has ls 1 [(0, .ref a)] := hl
  refine lv_aload_n hx hb dX1_empty_0 rfl (lv_at hl 0 rfl) ?_
  refine lv_iconst (v := 0) hx hb dX1_empty_1 (by decide) ?_
  refine mm_put (v := .int 0) (ci := 1) (C := RX1) (T := TX1) (N := 4) hx hb hts (in_X1_empty_X1) tyX1 tyX1_ok nmX1 hown hK hM hS h_a rfl 1 (by decide) (hts (.fieldLink RX1 15 "GroupLog$Queue" "length" "I") (List.mem_of_getElem? (i := 1) rfl)) rfl rfl rfl (Nat.le_of_ble_eq_true rfl) dX1_empty_2 (fun H locs M hM ha ho hS => ?_)
  have h_a : _ = some (Sum.inr (1, [y, .int 0, .int k2, .int k3]) : va_E) := ha
  have ho0 := ho
  refine lv_aload_n hx hb dX1_empty_5 rfl (lv_at hl 0 rfl) ?_
  refine lv_iconst (v := 0) hx hb dX1_empty_6 (by decide) ?_
  refine mm_put (v := .int 0) (ci := 1) (C := RX1) (T := TX1) (N := 4) hx hb hts (in_X1_empty_X1) tyX1 tyX1_ok nmX1 hown hK hM hS h_a rfl 2 (by decide) (hts (.fieldLink RX1 19 "GroupLog$Queue" "records" "I") (List.mem_of_getElem? (i := 2) rfl)) rfl rfl rfl (Nat.le_of_ble_eq_true rfl) dX1_empty_7 (fun H locs M hM ha ho hS => ?_)
  have h_a : _ = some (Sum.inr (1, [y, .int 0, .int 0, .int k3]) : va_E) := ha
  have ho1 := ho
  refine lv_aload_n hx hb dX1_empty_10 rfl (lv_at hl 0 rfl) ?_
  refine lv_iconst (v := 0) hx hb dX1_empty_11 (by decide) ?_
  refine mm_put (v := .int 0) (ci := 1) (C := RX1) (T := TX1) (N := 4) hx hb hts (in_X1_empty_X1) tyX1 tyX1_ok nmX1 hown hK hM hS h_a rfl 3 (by decide) (hts (.fieldLink RX1 22 "GroupLog$Queue" "waited" "I") (List.mem_of_getElem? (i := 3) rfl)) rfl rfl rfl (Nat.le_of_ble_eq_true rfl) dX1_empty_12 (fun H locs M hM ha ho hS => ?_)
  have h_a : _ = some (Sum.inr (1, [y, .int 0, .int 0, .int 0]) : va_E) := ha
  have ho2 := ho
  exact mm_vret hx hb hr hlk hM hS (⟨h_a, fun q hq => by rw [ho2 q hq, ho1 q hq, ho0 q hq]⟩) dX1_empty_15

theorem in_X1_sectorsWith_X1 : ∀ w ∈ u_ws RX1 TX1 4, w ∈ wsX1_sectorsWith := fun w h => List.mem_cons_of_mem _ (List.mem_append_right _ h)
set_option maxHeartbeats 4000000 in
set_option maxRecDepth 100000 in
/-- Queue.sectorsWith(0) of an empty queue -/
theorem c_X1_sectorsWith {l : Launch} {D : va_G} {A : Nat → Prop} {cI cS cB cZ : ClassId} {M : Nat → Option va_E} {sz : Nat} {a : Nat} {y : Value} {k2 k3 : Int32} (h_a : M a = some (Sum.inr (1, [y, .int 0, .int k2, .int k3]) : va_E)) : Met l yX1_sectorsWith wsX1_sectorsWith ({ frames := 0, cells := 0, slots := 0, locals := 0 }) (mm_Pc D A (mm_T cI cS cB cZ) M sz [.ref a, .int 0]) (mm_Qi D A (fun r M1 => r = 0 ∧ M1 = M)) 0 0 A := by
  refine mm_met (cc := cX1_sectorsWith) (maxL := 2) (ret := (some .int)) (by decide) rfl (Nat.le_of_ble_eq_true rfl) ?_
  intro p e s m args below meth c hx hb hr hts hown hlk hin hml hsz hK hM hS ls hl
  subst hsz
  have hl : lv_has ls 2 [(0, .ref a), (1, .int 0)] := hl
  refine lv_aload_n hx hb dX1_sectorsWith_0 rfl (lv_at hl 0 rfl) ?_
  refine mm_get (v := .int 0) (ci := 1) (C := RX1) (T := TX1) (N := 4) hx hb hts (in_X1_sectorsWith_X1) hown hK hM h_a rfl 1 (by decide) (hts (.fieldLink RX1 15 "GroupLog$Queue" "length" "I") (List.mem_of_getElem? (i := 1) rfl)) rfl dX1_sectorsWith_1 ?_
  refine lv_iload_n hx hb dX1_sectorsWith_4 rfl (lv_at hl 1 rfl) ?_
  refine lv_iadd hx hb dX1_sectorsWith_5 ?_
  refine lv_topi (fun z1 ez1 => ?_)
  have ez1 : z1 = 0 := ez1.trans (by decide)
  subst ez1
  refine lv_bipush (v := 48) hx hb dX1_sectorsWith_6 (by decide) ?_
  refine lv_iadd hx hb dX1_sectorsWith_8 ?_
  refine lv_topi (fun z2 ez2 => ?_)
  have ez2 : z2 = 48 := ez2.trans (by decide)
  subst ez2
  refine lv_iconst (v := 1) hx hb dX1_sectorsWith_9 (by decide) ?_
  refine lv_isub hx hb dX1_sectorsWith_10 ?_
  refine lv_topi (fun z3 ez3 => ?_)
  have ez3 : z3 = 47 := ez3.trans (by decide)
  subst ez3
  refine lv_bipush (v := 48) hx hb dX1_sectorsWith_11 (by decide) ?_
  refine lv_idiv hx hb dX1_sectorsWith_13 (by decide) ?_
  refine lv_topi (fun z4 ez4 => ?_)
  have ez4 : z4 = 0 := ez4.trans (by decide)
  subst ez4
  exact mm_iret hx hb hr hlk hM hS (⟨rfl, rfl⟩) dX1_sectorsWith_14

theorem in_X1_tellTo_X1 : ∀ w ∈ u_ws RX1 TX1 4, w ∈ wsX1_tellTo := fun w h => List.mem_cons_of_mem _ (List.mem_append_left _ (List.mem_append_right _ h))
set_option maxHeartbeats 4000000 in
set_option maxRecDepth 100000 in
/-- Queue.tellTo of an empty queue -/
theorem c_X1_tellTo {l : Launch} {D : va_G} {A : Nat → Prop} {cI cS cB cZ : ClassId} {M : Nat → Option va_E} {sz : Nat} {a lg : Nat} {y : Value} {k1 k3 : Int32} {pl : Int32} (h_a : M a = some (Sum.inr (1, [y, .int k1, .int 0, .int k3]) : va_E)) : Met l yX1_tellTo wsX1_tellTo ({ frames := 0, cells := 0, slots := 0, locals := 0 }) (mm_Pc D A (mm_T cI cS cB cZ) M sz [.ref a, .ref lg, .int pl]) (mm_Qv D A (fun M1 => M1 = M)) 0 0 A := by
  refine mm_met (cc := cX1_tellTo) (maxL := 5) (ret := none) (by decide) rfl (Nat.le_of_ble_eq_true rfl) ?_
  intro p e s m args below meth c hx hb hr hts hown hlk hin hml hsz hK hM hS ls hl
  subst hsz
  have hl : lv_has ls 5 [(0, .ref a), (1, .ref lg), (2, .int pl)] := hl
  refine lv_iconst (v := 0) hx hb dX1_tellTo_0 (by decide) ?_
  refine lv_istore_n (lv' := [(3, .int 0), (0, .ref a), (1, .ref lg), (2, .int pl)]) hx hb dX1_tellTo_1 rfl hl (by decide) rfl (fun ls hl => ?_)
  refine lv_iconst (v := 0) hx hb dX1_tellTo_2 (by decide) ?_
  refine lv_istore (lv' := [(4, .int 0), (3, .int 0), (0, .ref a), (1, .ref lg), (2, .int pl)]) hx hb dX1_tellTo_3 hl (by decide) rfl (fun ls hl => ?_)
  refine lv_iload hx hb dX1_tellTo_5 (lv_at hl 0 rfl) ?_
  refine lv_aload_n hx hb dX1_tellTo_7 rfl (lv_at hl 2 rfl) ?_
  refine mm_get (v := .int 0) (ci := 1) (C := RX1) (T := TX1) (N := 4) hx hb hts (in_X1_tellTo_X1) hown hK hM h_a rfl 2 (by decide) (hts (.fieldLink RX1 19 "GroupLog$Queue" "records" "I") (List.mem_of_getElem? (i := 1) rfl)) rfl dX1_tellTo_8 ?_
  refine lv_icmp_ge (tgt := 42) hx hb dX1_tellTo_11 (by decide) (fun c_1 => ?_) (fun c_1 => ?_)
  rotate_left
  · exact absurd c_1 (by decide)
  exact mm_vret hx hb hr hlk hM hS (rfl) dX1_tellTo_42

theorem in_X0_openAt_X0 : ∀ w ∈ u_ws RX0 TX0 8, w ∈ wsX0_openAt := fun w h => List.mem_cons_of_mem _ (List.mem_append_right _ h)
set_option maxHeartbeats 4000000 in
set_option maxRecDepth 100000 in
/-- Log.openAt(2, 1, 1) -/
theorem c_X0_openAt {l : Launch} {D : va_G} {A : Nat → Prop} {cI cS cB cZ : ClassId} {M : Nat → Option va_E} {sz : Nat} {a lb : Nat} {k1 k2 k3 k4 k5 k6 k7 : Int32} (h_a : M a = some (Sum.inr (0, [.ref lb, .int k1, .int k2, .int k3, .int k4, .int k5, .int k6, .int k7]) : va_E)) : Met l yX0_openAt wsX0_openAt ({ frames := 0, cells := 0, slots := 0, locals := 0 }) (mm_Pc D A (mm_T cI cS cB cZ) M sz [.ref a, .int 2, .int 1, .int 1]) (mm_Qv D A (fun M1 => M1 a = some (Sum.inr (0, [.ref lb, .int 1, .int 1, .int 0, .int 2, .int 0, .int 2, .int 1]) : va_E) ∧ ∀ q, q ≠ a → M1 q = M q)) 0 0 A := by
  refine mm_met (cc := cX0_openAt) (maxL := 4) (ret := none) (by decide) rfl (Nat.le_of_ble_eq_true rfl) ?_
  intro p e s m args below meth c hx hb hr hts hown hlk hin hml hsz hK hM hS ls hl
  subst hsz
  have hl : lv_has ls 4 [(0, .ref a), (1, .int 2), (2, .int 1), (3, .int 1)] := hl
  refine lv_aload_n hx hb dX0_openAt_0 rfl (lv_at hl 0 rfl) ?_
  refine lv_iload_n hx hb dX0_openAt_1 rfl (lv_at hl 3 rfl) ?_
  refine mm_put (v := .int 1) (ci := 0) (C := RX0) (T := TX0) (N := 8) hx hb hts (in_X0_openAt_X0) tyX0 tyX0_ok nmX0 hown hK hM hS h_a rfl 1 (by decide) (hts (.fieldLink RX0 19 "GroupLog$Log" "firstRecord" "I") (List.mem_of_getElem? (i := 1) rfl)) rfl rfl rfl (Nat.le_of_ble_eq_true rfl) dX0_openAt_2 (fun H locs M hM ha ho hS => ?_)
  have h_a : _ = some (Sum.inr (0, [.ref lb, .int 1, .int k2, .int k3, .int k4, .int k5, .int k6, .int k7]) : va_E) := ha
  have ho0 := ho
  refine lv_aload_n hx hb dX0_openAt_5 rfl (lv_at hl 0 rfl) ?_
  refine lv_iload_n hx hb dX0_openAt_6 rfl (lv_at hl 3 rfl) ?_
  refine mm_put (v := .int 1) (ci := 0) (C := RX0) (T := TX0) (N := 8) hx hb hts (in_X0_openAt_X0) tyX0 tyX0_ok nmX0 hown hK hM hS h_a rfl 2 (by decide) (hts (.fieldLink RX0 23 "GroupLog$Log" "keptFrom" "I") (List.mem_of_getElem? (i := 2) rfl)) rfl rfl rfl (Nat.le_of_ble_eq_true rfl) dX0_openAt_7 (fun H locs M hM ha ho hS => ?_)
  have h_a : _ = some (Sum.inr (0, [.ref lb, .int 1, .int 1, .int k3, .int k4, .int k5, .int k6, .int k7]) : va_E) := ha
  have ho1 := ho
  refine lv_aload_n hx hb dX0_openAt_10 rfl (lv_at hl 0 rfl) ?_
  refine lv_iload_n hx hb dX0_openAt_11 rfl (lv_at hl 3 rfl) ?_
  refine lv_iconst (v := 1) hx hb dX0_openAt_12 (by decide) ?_
  refine lv_isub hx hb dX0_openAt_13 ?_
  refine lv_topi (fun z1 ez1 => ?_)
  have ez1 : z1 = 0 := ez1.trans (by decide)
  subst ez1
  refine mm_put (v := .int 0) (ci := 0) (C := RX0) (T := TX0) (N := 8) hx hb hts (in_X0_openAt_X0) tyX0 tyX0_ok nmX0 hown hK hM hS h_a rfl 3 (by decide) (hts (.fieldLink RX0 26 "GroupLog$Log" "lastSafe" "I") (List.mem_of_getElem? (i := 3) rfl)) rfl rfl rfl (Nat.le_of_ble_eq_true rfl) dX0_openAt_14 (fun H locs M hM ha ho hS => ?_)
  have h_a : _ = some (Sum.inr (0, [.ref lb, .int 1, .int 1, .int 0, .int k4, .int k5, .int k6, .int k7]) : va_E) := ha
  have ho2 := ho
  refine lv_aload_n hx hb dX0_openAt_17 rfl (lv_at hl 0 rfl) ?_
  refine lv_iload_n hx hb dX0_openAt_18 rfl (lv_at hl 1 rfl) ?_
  refine mm_put (v := .int 2) (ci := 0) (C := RX0) (T := TX0) (N := 8) hx hb hts (in_X0_openAt_X0) tyX0 tyX0_ok nmX0 hown hK hM hS h_a rfl 4 (by decide) (hts (.fieldLink RX0 29 "GroupLog$Log" "firstPlace" "I") (List.mem_of_getElem? (i := 4) rfl)) rfl rfl rfl (Nat.le_of_ble_eq_true rfl) dX0_openAt_19 (fun H locs M hM ha ho hS => ?_)
  have h_a : _ = some (Sum.inr (0, [.ref lb, .int 1, .int 1, .int 0, .int 2, .int k5, .int k6, .int k7]) : va_E) := ha
  have ho3 := ho
  refine lv_aload_n hx hb dX0_openAt_22 rfl (lv_at hl 0 rfl) ?_
  refine lv_iconst (v := 0) hx hb dX0_openAt_23 (by decide) ?_
  refine mm_put (v := .int 0) (ci := 0) (C := RX0) (T := TX0) (N := 8) hx hb hts (in_X0_openAt_X0) tyX0 tyX0_ok nmX0 hown hK hM hS h_a rfl 5 (by decide) (hts (.fieldLink RX0 32 "GroupLog$Log" "used" "I") (List.mem_of_getElem? (i := 5) rfl)) rfl rfl rfl (Nat.le_of_ble_eq_true rfl) dX0_openAt_24 (fun H locs M hM ha ho hS => ?_)
  have h_a : _ = some (Sum.inr (0, [.ref lb, .int 1, .int 1, .int 0, .int 2, .int 0, .int k6, .int k7]) : va_E) := ha
  have ho4 := ho
  refine lv_aload_n hx hb dX0_openAt_27 rfl (lv_at hl 0 rfl) ?_
  refine lv_iload_n hx hb dX0_openAt_28 rfl (lv_at hl 1 rfl) ?_
  refine mm_put (v := .int 2) (ci := 0) (C := RX0) (T := TX0) (N := 8) hx hb hts (in_X0_openAt_X0) tyX0 tyX0_ok nmX0 hown hK hM hS h_a rfl 6 (by decide) (hts (.fieldLink RX0 35 "GroupLog$Log" "nextPlace" "I") (List.mem_of_getElem? (i := 6) rfl)) rfl rfl rfl (Nat.le_of_ble_eq_true rfl) dX0_openAt_29 (fun H locs M hM ha ho hS => ?_)
  have h_a : _ = some (Sum.inr (0, [.ref lb, .int 1, .int 1, .int 0, .int 2, .int 0, .int 2, .int k7]) : va_E) := ha
  have ho5 := ho
  refine lv_aload_n hx hb dX0_openAt_32 rfl (lv_at hl 0 rfl) ?_
  refine lv_iload_n hx hb dX0_openAt_33 rfl (lv_at hl 2 rfl) ?_
  refine mm_put (v := .int 1) (ci := 0) (C := RX0) (T := TX0) (N := 8) hx hb hts (in_X0_openAt_X0) tyX0 tyX0_ok nmX0 hown hK hM hS h_a rfl 7 (by decide) (hts (.fieldLink RX0 38 "GroupLog$Log" "nextSerial" "I") (List.mem_of_getElem? (i := 7) rfl)) rfl rfl rfl (Nat.le_of_ble_eq_true rfl) dX0_openAt_34 (fun H locs M hM ha ho hS => ?_)
  have h_a : _ = some (Sum.inr (0, [.ref lb, .int 1, .int 1, .int 0, .int 2, .int 0, .int 2, .int 1]) : va_E) := ha
  have ho6 := ho
  exact mm_vret hx hb hr hlk hM hS (⟨h_a, fun q hq => by rw [ho6 q hq, ho5 q hq, ho4 q hq, ho3 q hq, ho2 q hq, ho1 q hq, ho0 q hq]⟩) dX0_openAt_37

theorem in_X0_init_X0 : ∀ w ∈ u_ws RX0 TX0 8, w ∈ wsX0_init := fun w h => List.mem_cons_of_mem _ (List.mem_append_right _ h)
set_option maxHeartbeats 4000000 in
set_option maxRecDepth 100000 in
/-- Log() -/
theorem c_X0_init {l : Launch} {D : va_G} {A : Nat → Prop} {cI cS cB cZ : ClassId} {M : Nat → Option va_E} {sz : Nat} (hA : ∀ q, sz ≤ q → A q) {a : Nat} (h_a : M a = some (Sum.inr (0, [.null, .int 0, .int 0, .int 0, .int 0, .int 0, .int 0, .int 0]) : va_E)) : Met l yX0_init wsX0_init ({ frames := 1, cells := 1, slots := 512, locals := 23 }) (mm_Pc D A (mm_T cI cS cB cZ) M sz [.ref a]) (mm_Qv D A (fun M1 => ∃ qb : Nat, M1 a = some (Sum.inr (0, [.ref qb, .int 1, .int 1, .int 0, .int 2, .int 0, .int 2, .int 1]) : va_E) ∧ M1 qb = some (Sum.inl (cI, 512, .inl (fun _ => 0)) : va_E) ∧ ∀ q, M q ≠ none → q ≠ a → M1 q = M q)) 1 512 A := by
  refine mm_met (cc := cX0_init) (maxL := 1) (ret := none) (by decide) rfl (Nat.le_of_ble_eq_true rfl) ?_
  intro p e s m args below meth c hx hb hr hts hown hlk hin hml hsz hK hM hS ls hl
  subst hsz
  have hl : lv_has ls 1 [(0, .ref a)] := hl
  refine lv_aload_n hx hb dX0_init_0 rfl (lv_at hl 0 rfl) ?_
  refine W.objInit hx hb hown (hts (.methodLink RX0 3 objectInit) (List.mem_of_getElem? (i := 1) rfl)) (hts (.instanceMethod objectInit) (List.mem_of_getElem? (i := 2) rfl)) (hts _ (List.mem_of_getElem? (i := 3) rfl)) rfl (by rw [hml]; exact hl.1) rfl dX0_init_1 (Nat.le_of_ble_eq_true rfl) (Nat.le_of_ble_eq_true rfl) ?_
  refine W.eq (g2 := F0 m 4 ls []) rfl ?_
  refine lv_aload_n hx hb dX0_init_4 rfl (lv_at hl 0 rfl) ?_
  refine lv_sipush (v := 512) hx hb dX0_init_5 (by decide) ?_
  refine mm_newa (atype := .int) (ty := .int) (N' := 512) hx hb (hts (.arrayClass .int) (List.mem_of_getElem? (i := 4) rfl)) rfl hK hM hS hA 0 rfl (fun _ h => by cases h) (mm_z_int 512) (by decide +kernel) (by decide +kernel) (by decide +kernel) (Nat.le_of_ble_eq_true rfl) (Nat.le_of_ble_eq_true rfl) dX0_init_8 (fun qb H M hM ha hn ho hS => ?_)
  have n_a_qb : a ≠ qb := mm_nn h_a hn
  have h_a := (ho a n_a_qb).trans h_a
  have h_qb : _ = some (Sum.inl (cI, 512, .inl (fun _ => 0)) : va_E) := ha
  refine W.widen (k := 1) (n := 512) (by omega) (by omega) ?_
  have hn0 := hn
  have hoB := ho
  refine mm_putF (v := .ref qb) (ci := 0) (C := RX0) (T := TX0) (N := 8) hx hb hts (in_X0_init_X0) tyX0 tyX0_ok nmX0 hown hK hM hS h_a rfl 0 (by decide) (hts (.fieldLink RX0 9 "GroupLog$Log" "begins" "[I") (List.mem_of_getElem? (i := 5) rfl)) rfl hin rfl rfl rfl (Nat.le_of_ble_eq_true rfl) dX0_init_10 (fun H locs M hM ha ho hS => ?_)
  have h_qb := (ho qb (Ne.symm n_a_qb)).trans h_qb
  have h_a : _ = some (Sum.inr (0, [.ref qb, .int 0, .int 0, .int 0, .int 0, .int 0, .int 0, .int 0]) : va_E) := ha
  have ho0 := ho
  refine lv_aload_n hx hb dX0_init_13 rfl (lv_at hl 0 rfl) ?_
  refine lv_iconst (v := 2) hx hb dX0_init_14 (by decide) ?_
  refine lv_iconst (v := 1) hx hb dX0_init_15 (by decide) ?_
  refine lv_iconst (v := 1) hx hb dX0_init_16 (by decide) ?_
  refine mm_callv (mm_runV (As := [.int 2, .int 1, .int 1]) (rest := []) ⟨hx, hb, hml, hown, hts⟩ (c_X0_openAt h_a) (cwV 3 hts gX0_init_X0_openAt rfl rfl rfl (by decide +kernel) ⟨Nat.le_of_ble_eq_true rfl, Nat.le_of_ble_eq_true rfl⟩) hK hM h_a rfl rfl hl.1 rfl (Nat.le_of_ble_eq_true rfl) dX0_init_17 ⟨Nat.le_of_ble_eq_true rfl, Nat.le_of_ble_eq_true rfl⟩) hS (fun _ h => h) (fun M H locs hp hM hS hz _ => ?_)
  obtain ⟨ha, ho1⟩ := hp
  have h_qb := (ho1 qb (Ne.symm n_a_qb)).trans h_qb
  have h_a : _ = some (Sum.inr (0, [.ref qb, .int 1, .int 1, .int 0, .int 2, .int 0, .int 2, .int 1]) : va_E) := ha
  exact mm_vret hx hb hr hlk hM hS (⟨qb, h_a, h_qb, fun q hq hqa => by rw [ho1 q hqa, ho0 q hqa, hoB q (fun e => hq (by rw [e]; exact hn0))]⟩) dX0_init_20

theorem hs_no {k : Int32} (h : ¬ k < 1) : 0 < k := by
  rw [Int32.lt_iff_toInt_lt] at h ⊢
  have e1 : (1 : Int32).toInt = 1 := by decide
  have e0 : (0 : Int32).toInt = 0 := by decide
  omega

theorem in_X0_has_X0 : ∀ w ∈ u_ws RX0 TX0 8, w ∈ wsX0_has := fun w h => List.mem_cons_of_mem _ (List.mem_append_right _ h)
set_option maxHeartbeats 4000000 in
set_option maxRecDepth 100000 in
/-- Log.has of a new log: none -/
theorem c_X0_has {l : Launch} {D : va_G} {A : Nat → Prop} {cI cS cB cZ : ClassId} {M : Nat → Option va_E} {sz : Nat} {a lb : Nat} {k : Int32} (h_a : M a = some (Sum.inr (0, [.ref lb, .int 1, .int 1, .int 0, .int 2, .int 0, .int 2, .int 1]) : va_E)) : Met l yX0_has wsX0_has ({ frames := 0, cells := 0, slots := 0, locals := 0 }) (mm_Pc D A (mm_T cI cS cB cZ) M sz [.ref a, .int k]) (mm_Qi D A (fun r M1 => r = 0 ∧ M1 = M)) 0 0 A := by
  refine mm_met (cc := cX0_has) (maxL := 2) (ret := (some .boolean)) (by decide) rfl (Nat.le_of_ble_eq_true rfl) ?_
  intro p e s m args below meth c hx hb hr hts hown hlk hin hml hsz hK hM hS ls hl
  subst hsz
  have hl : lv_has ls 2 [(0, .ref a), (1, .int k)] := hl
  refine lv_iload_n hx hb dX0_has_0 rfl (lv_at hl 1 rfl) ?_
  refine lv_aload_n hx hb dX0_has_1 rfl (lv_at hl 0 rfl) ?_
  refine mm_get (v := .int 1) (ci := 0) (C := RX0) (T := TX0) (N := 8) hx hb hts (in_X0_has_X0) hown hK hM h_a rfl 1 (by decide) (hts (.fieldLink RX0 19 "GroupLog$Log" "firstRecord" "I") (List.mem_of_getElem? (i := 1) rfl)) rfl dX0_has_2 ?_
  refine lv_icmp_lt (tgt := 20) hx hb dX0_has_5 (by decide) (fun c_1 => ?_) (fun c_1 => ?_)
  · skip
    refine lv_iconst (v := 0) hx hb dX0_has_20 (by decide) ?_
    exact mm_zret hx hb hr hlk (rfl) hM hS (⟨rfl, rfl⟩) dX0_has_21
  · skip
    refine lv_iload_n hx hb dX0_has_8 rfl (lv_at hl 1 rfl) ?_
    refine lv_aload_n hx hb dX0_has_9 rfl (lv_at hl 0 rfl) ?_
    refine mm_get (v := .int 0) (ci := 0) (C := RX0) (T := TX0) (N := 8) hx hb hts (in_X0_has_X0) hown hK hM h_a rfl 3 (by decide) (hts (.fieldLink RX0 26 "GroupLog$Log" "lastSafe" "I") (List.mem_of_getElem? (i := 2) rfl)) rfl dX0_has_10 ?_
    refine lv_icmp_gt (tgt := 20) hx hb dX0_has_13 (by decide) (fun c_2 => ?_) (fun c_2 => ?_)
    rotate_left
    · exact absurd c_2 (fun h => h (hs_no c_1))
    refine lv_iconst (v := 0) hx hb dX0_has_20 (by decide) ?_
    exact mm_zret hx hb hr hlk (rfl) hM hS (⟨rfl, rfl⟩) dX0_has_21

theorem in_X0_placeOf_X0 : ∀ w ∈ u_ws RX0 TX0 8, w ∈ wsX0_placeOf := fun w h => List.mem_cons_of_mem _ (List.mem_append_right _ h)
set_option maxHeartbeats 4000000 in
set_option maxRecDepth 100000 in
/-- Log.placeOf(1) of a new log -/
theorem c_X0_placeOf {l : Launch} {D : va_G} {A : Nat → Prop} {cI cS cB cZ : ClassId} {M : Nat → Option va_E} {sz : Nat} {a lb : Nat} (h_a : M a = some (Sum.inr (0, [.ref lb, .int 1, .int 1, .int 0, .int 2, .int 0, .int 2, .int 1]) : va_E)) : Met l yX0_placeOf wsX0_placeOf ({ frames := 0, cells := 0, slots := 0, locals := 0 }) (mm_Pc D A (mm_T cI cS cB cZ) M sz [.ref a, .int 1]) (mm_Qi D A (fun r M1 => r = 2 ∧ M1 = M)) 0 0 A := by
  refine mm_met (cc := cX0_placeOf) (maxL := 2) (ret := (some .int)) (by decide) rfl (Nat.le_of_ble_eq_true rfl) ?_
  intro p e s m args below meth c hx hb hr hts hown hlk hin hml hsz hK hM hS ls hl
  subst hsz
  have hl : lv_has ls 2 [(0, .ref a), (1, .int 1)] := hl
  refine lv_iload_n hx hb dX0_placeOf_0 rfl (lv_at hl 1 rfl) ?_
  refine lv_aload_n hx hb dX0_placeOf_1 rfl (lv_at hl 0 rfl) ?_
  refine mm_get (v := .int 0) (ci := 0) (C := RX0) (T := TX0) (N := 8) hx hb hts (in_X0_placeOf_X0) hown hK hM h_a rfl 3 (by decide) (hts (.fieldLink RX0 26 "GroupLog$Log" "lastSafe" "I") (List.mem_of_getElem? (i := 1) rfl)) rfl dX0_placeOf_2 ?_
  refine lv_icmp_le (tgt := 15) hx hb dX0_placeOf_5 (by decide) (fun c_1 => ?_) (fun c_1 => ?_)
  · exact absurd c_1 (by decide)
  refine lv_aload_n hx hb dX0_placeOf_8 rfl (lv_at hl 0 rfl) ?_
  refine mm_get (v := .int 2) (ci := 0) (C := RX0) (T := TX0) (N := 8) hx hb hts (in_X0_placeOf_X0) hown hK hM h_a rfl 6 (by decide) (hts (.fieldLink RX0 35 "GroupLog$Log" "nextPlace" "I") (List.mem_of_getElem? (i := 2) rfl)) rfl dX0_placeOf_9 ?_
  refine lv_goto (tgt := 23) hx hb dX0_placeOf_12 (by decide) ?_
  exact mm_iret hx hb hr hlk hM hS (⟨rfl, rfl⟩) dX0_placeOf_23

set_option maxHeartbeats 4000000 in
set_option maxRecDepth 100000 in
/-- Log.firstBeginningWith(1) of a new log -/
theorem c_X0_firstBeginningWith {l : Launch} {D : va_G} {A : Nat → Prop} {cI cS cB cZ : ClassId} {M : Nat → Option va_E} {sz : Nat} {a lb : Nat} (h_a : M a = some (Sum.inr (0, [.ref lb, .int 1, .int 1, .int 0, .int 2, .int 0, .int 2, .int 1]) : va_E)) : Met l yX0_firstBeginningWith wsX0_firstBeginningWith ({ frames := 1, cells := 0, slots := 0, locals := 21 }) (mm_Pc D A (mm_T cI cS cB cZ) M sz [.ref a, .int 1]) (mm_Qi D A (fun r M1 => r = 1 ∧ M1 = M)) 0 0 A := by
  refine mm_met (cc := cX0_firstBeginningWith) (maxL := 4) (ret := (some .int)) (by decide) rfl (Nat.le_of_ble_eq_true rfl) ?_
  intro p e s m args below meth c hx hb hr hts hown hlk hin hml hsz hK hM hS ls hl
  subst hsz
  have hl : lv_has ls 4 [(0, .ref a), (1, .int 1)] := hl
  refine lv_aload_n hx hb dX0_firstBeginningWith_0 rfl (lv_at hl 0 rfl) ?_
  refine lv_iload_n hx hb dX0_firstBeginningWith_1 rfl (lv_at hl 1 rfl) ?_
  refine mm_calli (mm_runV (As := [.int 1]) (rest := []) ⟨hx, hb, hml, hown, hts⟩ (c_X0_has h_a) (cwV 1 hts gX0_firstBeginningWith_X0_has rfl rfl rfl (by decide +kernel) ⟨Nat.le_of_ble_eq_true rfl, Nat.le_of_ble_eq_true rfl⟩) hK hM h_a rfl rfl hl.1 rfl (Nat.le_of_ble_eq_true rfl) dX0_firstBeginningWith_2 ⟨Nat.le_of_ble_eq_true rfl, Nat.le_of_ble_eq_true rfl⟩) hS (fun _ h => h) (fun r1 M H locs hp hM hS hz _ => ?_)
  obtain ⟨rfl, hme⟩ := hp
  rw [hme] at hM
  refine lv_if_ne (tgt := 10) hx hb dX0_firstBeginningWith_5 (by decide) (fun c_2 => ?_) (fun c_2 => ?_)
  · exact absurd c_2 (by decide)
  refine lv_iload_n hx hb dX0_firstBeginningWith_8 rfl (lv_at hl 1 rfl) ?_
  exact mm_iret hx hb hr hlk hM hS (⟨rfl, rfl⟩) dX0_firstBeginningWith_9

theorem in_X0_giveUpBefore_X0 : ∀ w ∈ u_ws RX0 TX0 8, w ∈ wsX0_giveUpBefore := fun w h => List.mem_cons_of_mem _ (List.mem_append_right _ h)
set_option maxHeartbeats 4000000 in
set_option maxRecDepth 100000 in
/-- Log.giveUpBefore(1, 1, 2) of a new log -/
theorem c_X0_giveUpBefore {l : Launch} {D : va_G} {A : Nat → Prop} {cI cS cB cZ : ClassId} {M : Nat → Option va_E} {sz : Nat} {a lb : Nat} (h_a : M a = some (Sum.inr (0, [.ref lb, .int 1, .int 1, .int 0, .int 2, .int 0, .int 2, .int 1]) : va_E)) : Met l yX0_giveUpBefore wsX0_giveUpBefore ({ frames := 0, cells := 0, slots := 0, locals := 0 }) (mm_Pc D A (mm_T cI cS cB cZ) M sz [.ref a, .int 1, .int 1, .int 2]) (mm_Qi D A (fun r M1 => r = 0)) 0 0 A := by
  refine mm_met (cc := cX0_giveUpBefore) (maxL := 5) (ret := (some .int)) (by decide) rfl (Nat.le_of_ble_eq_true rfl) ?_
  intro p e s m args below meth c hx hb hr hts hown hlk hin hml hsz hK hM hS ls hl
  subst hsz
  have hl : lv_has ls 5 [(0, .ref a), (1, .int 1), (2, .int 1), (3, .int 2)] := hl
  refine lv_iload_n hx hb dX0_giveUpBefore_0 rfl (lv_at hl 1 rfl) ?_
  refine lv_aload_n hx hb dX0_giveUpBefore_1 rfl (lv_at hl 0 rfl) ?_
  refine mm_get (v := .int 0) (ci := 0) (C := RX0) (T := TX0) (N := 8) hx hb hts (in_X0_giveUpBefore_X0) hown hK hM h_a rfl 3 (by decide) (hts (.fieldLink RX0 26 "GroupLog$Log" "lastSafe" "I") (List.mem_of_getElem? (i := 1) rfl)) rfl dX0_giveUpBefore_2 ?_
  refine lv_icmp_le (tgt := 15) hx hb dX0_giveUpBefore_5 (by decide) (fun c_1 => ?_) (fun c_1 => ?_)
  · exact absurd c_1 (by decide)
  refine lv_aload_n hx hb dX0_giveUpBefore_8 rfl (lv_at hl 0 rfl) ?_
  refine mm_get (v := .int 0) (ci := 0) (C := RX0) (T := TX0) (N := 8) hx hb hts (in_X0_giveUpBefore_X0) hown hK hM h_a rfl 5 (by decide) (hts (.fieldLink RX0 32 "GroupLog$Log" "used" "I") (List.mem_of_getElem? (i := 2) rfl)) rfl dX0_giveUpBefore_9 ?_
  refine lv_goto (tgt := 26) hx hb dX0_giveUpBefore_12 (by decide) ?_
  refine lv_istore (lv' := [(4, .int 0), (0, .ref a), (1, .int 1), (2, .int 1), (3, .int 2)]) hx hb dX0_giveUpBefore_26 hl (by decide) rfl (fun ls hl => ?_)
  refine lv_aload_n hx hb dX0_giveUpBefore_28 rfl (lv_at hl 1 rfl) ?_
  refine lv_dup hx hb dX0_giveUpBefore_29 rfl ?_
  refine mm_get (v := .int 0) (ci := 0) (C := RX0) (T := TX0) (N := 8) hx hb hts (in_X0_giveUpBefore_X0) hown hK hM h_a rfl 5 (by decide) (hts (.fieldLink RX0 32 "GroupLog$Log" "used" "I") (List.mem_of_getElem? (i := 2) rfl)) rfl dX0_giveUpBefore_30 ?_
  refine lv_iload hx hb dX0_giveUpBefore_33 (lv_at hl 0 rfl) ?_
  refine lv_isub hx hb dX0_giveUpBefore_35 ?_
  refine lv_topi (fun z2 ez2 => ?_)
  have ez2 : z2 = 0 := ez2.trans (by decide)
  subst ez2
  refine mm_put (v := .int 0) (ci := 0) (C := RX0) (T := TX0) (N := 8) hx hb hts (in_X0_giveUpBefore_X0) tyX0 tyX0_ok nmX0 hown hK hM hS h_a rfl 5 (by decide) (hts (.fieldLink RX0 32 "GroupLog$Log" "used" "I") (List.mem_of_getElem? (i := 2) rfl)) rfl rfl rfl (Nat.le_of_ble_eq_true rfl) dX0_giveUpBefore_36 (fun H locs M hM ha ho hS => ?_)
  have h_a : _ = some (Sum.inr (0, [.ref lb, .int 1, .int 1, .int 0, .int 2, .int 0, .int 2, .int 1]) : va_E) := ha
  refine lv_aload_n hx hb dX0_giveUpBefore_39 rfl (lv_at hl 1 rfl) ?_
  refine lv_iload_n hx hb dX0_giveUpBefore_40 rfl (lv_at hl 4 rfl) ?_
  refine mm_put (v := .int 2) (ci := 0) (C := RX0) (T := TX0) (N := 8) hx hb hts (in_X0_giveUpBefore_X0) tyX0 tyX0_ok nmX0 hown hK hM hS h_a rfl 4 (by decide) (hts (.fieldLink RX0 29 "GroupLog$Log" "firstPlace" "I") (List.mem_of_getElem? (i := 3) rfl)) rfl rfl rfl (Nat.le_of_ble_eq_true rfl) dX0_giveUpBefore_41 (fun H locs M hM ha ho hS => ?_)
  have h_a : _ = some (Sum.inr (0, [.ref lb, .int 1, .int 1, .int 0, .int 2, .int 0, .int 2, .int 1]) : va_E) := ha
  refine lv_aload_n hx hb dX0_giveUpBefore_44 rfl (lv_at hl 1 rfl) ?_
  refine lv_iload_n hx hb dX0_giveUpBefore_45 rfl (lv_at hl 3 rfl) ?_
  refine mm_put (v := .int 1) (ci := 0) (C := RX0) (T := TX0) (N := 8) hx hb hts (in_X0_giveUpBefore_X0) tyX0 tyX0_ok nmX0 hown hK hM hS h_a rfl 1 (by decide) (hts (.fieldLink RX0 19 "GroupLog$Log" "firstRecord" "I") (List.mem_of_getElem? (i := 4) rfl)) rfl rfl rfl (Nat.le_of_ble_eq_true rfl) dX0_giveUpBefore_46 (fun H locs M hM ha ho hS => ?_)
  have h_a : _ = some (Sum.inr (0, [.ref lb, .int 1, .int 1, .int 0, .int 2, .int 0, .int 2, .int 1]) : va_E) := ha
  refine lv_aload_n hx hb dX0_giveUpBefore_49 rfl (lv_at hl 1 rfl) ?_
  refine lv_iload_n hx hb dX0_giveUpBefore_50 rfl (lv_at hl 2 rfl) ?_
  refine mm_put (v := .int 1) (ci := 0) (C := RX0) (T := TX0) (N := 8) hx hb hts (in_X0_giveUpBefore_X0) tyX0 tyX0_ok nmX0 hown hK hM hS h_a rfl 2 (by decide) (hts (.fieldLink RX0 23 "GroupLog$Log" "keptFrom" "I") (List.mem_of_getElem? (i := 5) rfl)) rfl rfl rfl (Nat.le_of_ble_eq_true rfl) dX0_giveUpBefore_51 (fun H locs M hM ha ho hS => ?_)
  have h_a : _ = some (Sum.inr (0, [.ref lb, .int 1, .int 1, .int 0, .int 2, .int 0, .int 2, .int 1]) : va_E) := ha
  refine lv_iload hx hb dX0_giveUpBefore_54 (lv_at hl 0 rfl) ?_
  exact mm_iret hx hb hr hlk hM hS (rfl) dX0_giveUpBefore_56

theorem in_X4_init_X3 : ∀ w ∈ u_ws RX3 TX3 2, w ∈ wsX4_init := fun w h => List.mem_cons_of_mem _ (List.mem_append_right _ h)
theorem in_X4_init_X4 : ∀ w ∈ u_ws RX4 TX4 4, w ∈ wsX4_init := fun w h => List.mem_cons_of_mem _ (List.mem_append_left _ (List.mem_append_right _ h))
set_option maxHeartbeats 4000000 in
set_option maxRecDepth 100000 in
theorem lp_X4_init {p : Program} {l : Launch} {e : Env} {s : State} {m : MethodId} {args : Array Value} {below : List Frame} {meth : Method} {c : Code} {Q : State → Prop} {D : va_G} {A : Nat → Prop} {cI cS cB cZ : ClassId} (hx : p.tables.exec = Jvm.exec) (hb : c.code = cX4_init) (hts : ∀ w ∈ wsX4_init, w.before args s = true) (hown : s.vm.findClass RX4 = some m.cls) (hml : c.maxLocals = 2) (hK : mm_K D (mm_T cI cS cB cZ) s) {a sa : Nat} {M0 : Nat → Option va_E} (hA : ∀ q, s.heap.size ≤ q → A q) (hs0 : M0 sa = none) :
    ∀ (n i : Nat), i + n = 64 → ∀ (M : Nat → Option va_E) (H : Heap) (locs : List Loc) (fa : Nat → Option Nat) (g h : Nat → Nat), mm_W D A M H → va_S A s.heap H locs → M a = some (Sum.inr (4, [.ref sa, .int 0, .int 0, .int 0]) : va_E) → M sa = some (Sum.inl (cS, 64, .inr (.inr (.inr (.inr (fa))))) : va_E) → st_inv cI M fa g h (fun _ _ => 0) i → (∀ q, M0 q ≠ none → q ≠ a → M q = M0 q) → (∀ (M1 : Nat → Option va_E) (H1 : Heap) (locs1 : List Loc) (fa1 : Nat → Option Nat) (g1 h1 : Nat → Nat) (ls1 : Array Slot), mm_W D A M1 H1 → va_S A s.heap H1 locs1 → M1 a = some (Sum.inr (4, [.ref sa, .int 0, .int 0, .int 0]) : va_E) → M1 sa = some (Sum.inl (cS, 64, .inr (.inr (.inr (.inr (fa1))))) : va_E) → st_inv cI M1 fa1 g1 h1 (fun _ _ => 0) 64 → (∀ q, M0 q ≠ none → q ≠ a → M1 q = M0 q) → lv_has ls1 2 [(0, .ref a), (1, .int (nI 64))] → W p l e ({ frames := 2, cells := 129, slots := 4288, locals := 40 } : Room) s m args below meth c H1 locs1 129 4288 Q (F0 m 43 ls1 [])) → ∀ ls : Array Slot, lv_has ls 2 [(0, .ref a), (1, .int (nI i))] → W p l e ({ frames := 2, cells := 129, slots := 4288, locals := 40 } : Room) s m args below meth c H locs (1 + 2 * i) (64 + 66 * i) Q (F0 m 15 ls []) := by
  intro n
  induction n with
  | zero =>
    intro i hi M H locs fa g h hM hS h_a h_sa hI hO kx ls hl
    obtain rfl : i = 64 := by omega
    refine lv_iload_n hx hb dX4_init_15 rfl (lv_at hl 1 rfl) ?_
    refine lv_aload_n hx hb dX4_init_16 rfl (lv_at hl 0 rfl) ?_
    refine mm_get (v := .ref sa) (ci := 4) (C := RX4) (T := TX4) (N := 4) hx hb hts (in_X4_init_X4) hown hK hM h_a rfl 0 (by decide) (hts (.fieldLink RX4 11 "GroupLog$Store" "sectors" "[LGroupLog$Sector;") (List.mem_of_getElem? (i := 5) rfl)) rfl dX4_init_17 ?_
    refine mm_alen (v := 64) hx hb hK hM 1 h_sa rfl rfl dX4_init_20 ?_
    refine lv_icmp_ge (tgt := 43) hx hb dX4_init_21 (by decide) (fun c_1 => ?_) (fun c_1 => ?_)
    rotate_left
    · exact absurd c_1 (fun h => h (by decide))
    refine W.widen (k := 129) (n := 4288) (by omega) (by omega) ?_
    exact kx M H locs fa g h ls hM hS h_a h_sa hI hO hl
  | succ n ih =>
    intro i hi M H locs fa g h hM hS h_a h_sa hI hO kx ls hl
    have hroom : i < 64 := by omega
    refine lv_iload_n hx hb dX4_init_15 rfl (lv_at hl 1 rfl) ?_
    refine lv_aload_n hx hb dX4_init_16 rfl (lv_at hl 0 rfl) ?_
    refine mm_get (v := .ref sa) (ci := 4) (C := RX4) (T := TX4) (N := 4) hx hb hts (in_X4_init_X4) hown hK hM h_a rfl 0 (by decide) (hts (.fieldLink RX4 11 "GroupLog$Store" "sectors" "[LGroupLog$Sector;") (List.mem_of_getElem? (i := 5) rfl)) rfl dX4_init_17 ?_
    refine mm_alen (v := 64) hx hb hK hM 1 h_sa rfl rfl dX4_init_20 ?_
    refine lv_icmp_ge (tgt := 43) hx hb dX4_init_21 (by decide) (fun c_2 => ?_) (fun c_2 => ?_)
    · exact absurd c_2 (nI_ge (b := 64) (by omega) (by decide))
    refine lv_aload_n hx hb dX4_init_24 rfl (lv_at hl 0 rfl) ?_
    refine mm_get (v := .ref sa) (ci := 4) (C := RX4) (T := TX4) (N := 4) hx hb hts (in_X4_init_X4) hown hK hM h_a rfl 0 (by decide) (hts (.fieldLink RX4 11 "GroupLog$Store" "sectors" "[LGroupLog$Sector;") (List.mem_of_getElem? (i := 5) rfl)) rfl dX4_init_25 ?_
    refine lv_iload_n hx hb dX4_init_28 rfl (lv_at hl 1 rfl) ?_
    refine mm_new (ci := 3) (fs := [.null, .int 0]) (C := RX3) (T := TX3) (N := 2) hx hb hts (in_X4_init_X3) tyX3 tyX3_ok hown (hts (.classLink RX4 9 RX3) (List.mem_of_getElem? (i := 4) rfl)) (hts (.instantiable RX3 2) (List.mem_of_getElem? (i := 6) rfl)) (hts (.initialized RX3) (List.mem_of_getElem? (i := 7) rfl)) hK hM hS hA rfl (def_X3) (by show _ ≤ 129; omega) (by show _ ≤ 4288; omega) dX4_init_29 (fun q1 H M hM ha hn ho hS => ?_)
    have n_a_q1 : a ≠ q1 := mm_nn h_a hn
    have h_a := (ho a n_a_q1).trans h_a
    have n_sa_q1 : sa ≠ q1 := mm_nn h_sa hn
    have h_sa := (ho sa n_sa_q1).trans h_sa
    have h_q1 : _ = some (Sum.inr (3, [.null, .int 0]) : va_E) := ha
    have hgn : ∀ j, j < i → g j ≠ q1 ∧ h j ≠ q1 := fun j hj => ⟨mm_nn (hI j hj).2.1 hn, mm_nn (hI j hj).2.2.1 hn⟩
    have hq1 : ∀ q, M0 q ≠ none → q ≠ a → q ≠ q1 := fun q hq hqa e => hq (by rw [← hO q hq hqa, e]; exact hn)
    have hI := st_keep hI (fun j hj => ⟨ho _ (hgn j hj).1, ho _ (hgn j hj).2⟩)
    have hO : ∀ q, M0 q ≠ none → q ≠ a → M q = M0 q := fun q hq hqa => (ho q (hq1 q hq hqa)).trans (hO q hq hqa)
    refine lv_dup hx hb dX4_init_32 rfl ?_
    refine mm_callv (mm_runI (As := []) (rest := [.ref q1, .int (nI i), .ref sa]) ⟨hx, hb, hml, hown, hts⟩ (c_X3_init (mm_hA hA hS) h_q1) (cwI 0 hts gX4_init_X3_init rfl rfl rfl (hts (.initialized RX3) (List.mem_of_getElem? (i := 7) rfl)) (hts (.methodLink RX4 17 yX3_init) (List.mem_of_getElem? (i := 11) rfl)) (hts (.instanceMethod yX3_init) (List.mem_of_getElem? (i := 12) rfl)) rfl (by decide +kernel) ⟨Nat.le_of_ble_eq_true rfl, Nat.le_of_ble_eq_true rfl⟩) hK hM rfl hl.1 rfl (Nat.le_of_ble_eq_true rfl) dX4_init_33 ⟨by show _ ≤ 129; omega, by show _ ≤ 4288; omega⟩) hS (fun _ h => h) (fun M H locs hp hM hS hz _ => ?_)
    obtain ⟨qb, hnb, hq2, hq3, ho⟩ := hp
    have hh0 : 0 < i → qb ≠ h 0 := fun h0 => Ne.symm (mm_nn (hI 0 h0).2.2.1 hnb)
    have hI := st_keep hI (fun j hj => ⟨ho _ (hgn j hj).1 (mm_nn (hI j hj).2.1 hnb), ho _ (hgn j hj).2 (mm_nn (hI j hj).2.2.1 hnb)⟩)
    have hO : ∀ q, M0 q ≠ none → q ≠ a → M q = M0 q := fun q hq hqa => (ho q (hq1 q hq hqa) (fun e => hq (by rw [← hO q hq hqa, e]; exact hnb))).trans (hO q hq hqa)
    have h_a := (ho a n_a_q1 (mm_nn h_a hnb)).trans h_a
    have h_sa := (ho sa n_sa_q1 (mm_nn h_sa hnb)).trans h_sa
    have h_q1 : _ = some (Sum.inr (3, [.ref qb, .int 0]) : va_E) := hq2
    have h_qb : _ = some (Sum.inl (cI, 64, .inl (fun _ => 0)) : va_E) := hq3
    have h_sO := h_sa
    refine mm_astq (r := (RX3, TX3, 2)) hx hb hK hM hS 1 3 h_sa rfl h_q1 rfl (j := i) (rfl) (hroom) (by decide) dX4_init_36 (fun H locs M hM ha ho hS => ?_)
    have h_a := (ho a (mm_ne h_a h_sa mm_oa)).trans h_a
    have h_q1 := (ho q1 (Ne.symm n_sa_q1)).trans h_q1
    have h_qb := (ho qb (mm_ne h_qb h_sa mm_iq)).trans h_qb
    have h_sa : _ = some (Sum.inl (cS, 64, .inr (.inr (.inr (.inr (va_up (fa) (i) (some q1)))))) : va_E) := ha
    have hI := st_keep hI (fun j hj => ⟨ho _ (mm_ne (hI j hj).2.1 h_sO mm_oa), ho _ (mm_ne (hI j hj).2.2.1 h_sO mm_iq)⟩)
    have hO : ∀ q, M0 q ≠ none → q ≠ a → M q = M0 q := fun q hq hqa => (ho q (fun e => hq (by rw [e]; exact hs0))).trans (hO q hq hqa)
    have hI := st_add hI h_q1 h_qb hh0
    refine lv_iinc (v := (nI (i + 1))) (lv' := [(1, .int (nI (i + 1))), (0, .ref a)]) hx hb dX4_init_37 hl (k := 1) rfl (by show _ + (1 : Int32) = _; exact nI_1 i) (by decide) rfl (fun ls hl => ?_)
    refine lv_goto (tgt := 15) hx hb dX4_init_40 (by decide) ?_
    refine W.widen (k := 1 + 2 * (i + 1)) (n := 64 + 66 * (i + 1)) (by omega) (by omega) ?_
    exact ih (i + 1) (by omega) M H locs _ _ _ hM hS h_a h_sa hI hO kx ls (lv_sub hl [1, 0] rfl)

set_option maxHeartbeats 4000000 in
set_option maxRecDepth 100000 in
/-- Store(): 64 sectors -/
theorem c_X4_init {l : Launch} {D : va_G} {A : Nat → Prop} {cI cS cB cZ : ClassId} {M : Nat → Option va_E} {sz : Nat} (hA : ∀ q, sz ≤ q → A q) {a : Nat} (h_a : M a = some (Sum.inr (4, [.null, .int 0, .int 0, .int 0]) : va_E)) : Met l yX4_init wsX4_init ({ frames := 2, cells := 129, slots := 4288, locals := 40 }) (mm_Pc D A (mm_T cI cS cB cZ) M sz [.ref a]) (mm_Qv D A (fun M1 => ∃ (sa : Nat) (fa : Nat → Option Nat) (g h : Nat → Nat), M1 a = some (Sum.inr (4, [.ref sa, .int 0, .int (-1), .int 0]) : va_E) ∧ M1 sa = some (Sum.inl (cS, 64, .inr (.inr (.inr (.inr (fa))))) : va_E) ∧ st_inv cI M1 fa g h (fun _ _ => 0) 64 ∧ ∀ q, M q ≠ none → q ≠ a → M1 q = M q)) 129 4288 A := by
  refine mm_met (cc := cX4_init) (maxL := 2) (ret := none) (by decide) rfl (Nat.le_of_ble_eq_true rfl) ?_
  intro p e s m args below meth c hx hb hr hts hown hlk hin hml hsz hK hM hS ls hl
  subst hsz
  have hl : lv_has ls 2 [(0, .ref a)] := hl
  refine lv_aload_n hx hb dX4_init_0 rfl (lv_at hl 0 rfl) ?_
  refine W.objInit hx hb hown (hts (.methodLink RX4 3 objectInit) (List.mem_of_getElem? (i := 1) rfl)) (hts (.instanceMethod objectInit) (List.mem_of_getElem? (i := 2) rfl)) (hts _ (List.mem_of_getElem? (i := 3) rfl)) rfl (by rw [hml]; exact hl.1) rfl dX4_init_1 (Nat.le_of_ble_eq_true rfl) (Nat.le_of_ble_eq_true rfl) ?_
  refine W.eq (g2 := F0 m 4 ls []) rfl ?_
  refine lv_aload_n hx hb dX4_init_4 rfl (lv_at hl 0 rfl) ?_
  refine lv_bipush (v := 64) hx hb dX4_init_5 (by decide) ?_
  refine mm_newq (N' := 64) hx hb hown (hts (.classLink RX4 9 RX3) (List.mem_of_getElem? (i := 4) rfl)) hK hM hS hA 1 rfl (by decide +kernel) (by decide +kernel) (by decide +kernel) (Nat.le_of_ble_eq_true rfl) (Nat.le_of_ble_eq_true rfl) dX4_init_7 (fun sa H M hM ha hn ho hS => ?_)
  have n_a_sa : a ≠ sa := mm_nn h_a hn
  have h_a := (ho a n_a_sa).trans h_a
  have h_sa : _ = some (Sum.inl (cS, 64, .inr (.inr (.inr (.inr (fun _ => none))))) : va_E) := ha
  refine W.widen (k := 1) (n := 64) (by omega) (by omega) ?_
  have hs0 := hn
  have hoS := ho
  refine mm_putF (v := .ref sa) (ci := 4) (C := RX4) (T := TX4) (N := 4) hx hb hts (in_X4_init_X4) tyX4 tyX4_ok nmX4 hown hK hM hS h_a rfl 0 (by decide) (hts (.fieldLink RX4 11 "GroupLog$Store" "sectors" "[LGroupLog$Sector;") (List.mem_of_getElem? (i := 5) rfl)) rfl hin rfl rfl rfl (Nat.le_of_ble_eq_true rfl) dX4_init_10 (fun H locs M hM ha ho hS => ?_)
  have h_sa := (ho sa (Ne.symm n_a_sa)).trans h_sa
  have h_a : _ = some (Sum.inr (4, [.ref sa, .int 0, .int 0, .int 0]) : va_E) := ha
  have hoP := ho
  refine lv_iconst (v := 0) hx hb dX4_init_13 (by decide) ?_
  refine lv_istore_n (lv' := [(1, .int 0), (0, .ref a)]) hx hb dX4_init_14 rfl hl (by decide) rfl (fun ls hl => ?_)
  refine lp_X4_init (a := a) (sa := sa) hx hb hts hown hml hK hA hs0 64 0 rfl _ _ _ (fun _ => none) (fun _ => 0) (fun _ => 0) hM hS h_a h_sa (fun j hj => absurd hj (by omega)) (fun q hq hqa => by rw [hoP q hqa, hoS q (fun e => hq (by rw [e]; exact hs0))]) (fun M H locs fa g h ls hM hS h_a h_sa hI hO hl => ?_) ls (lv_sub hl [1, 0] rfl)
  refine lv_aload_n hx hb dX4_init_43 rfl (lv_at hl 0 rfl) ?_
  refine lv_iconst (v := 0) hx hb dX4_init_44 (by decide) ?_
  have h_aO := h_a
  refine mm_put (v := .int 0) (ci := 4) (C := RX4) (T := TX4) (N := 4) hx hb hts (in_X4_init_X4) tyX4 tyX4_ok nmX4 hown hK hM hS h_a rfl 1 (by decide) (hts (.fieldLink RX4 18 "GroupLog$Store" "steps" "I") (List.mem_of_getElem? (i := 8) rfl)) rfl rfl rfl (Nat.le_of_ble_eq_true rfl) dX4_init_45 (fun H locs M hM ha ho hS => ?_)
  have h_sa := (ho sa (mm_ne h_sa h_a mm_ao)).trans h_sa
  have h_a : _ = some (Sum.inr (4, [.ref sa, .int 0, .int 0, .int 0]) : va_E) := ha
  have hI := st_keep hI (fun j hj => ⟨ho _ (mm_ne (hI j hj).2.1 h_aO (mm_oo (by decide))), ho _ (mm_ne (hI j hj).2.2.1 h_aO mm_ao)⟩)
  have hO := fun q hq hqa => (ho q hqa).trans (hO q hq hqa)
  refine lv_aload_n hx hb dX4_init_48 rfl (lv_at hl 0 rfl) ?_
  refine lv_iconst (v := (-1)) hx hb dX4_init_49 (by decide) ?_
  have h_aO := h_a
  refine mm_put (v := .int (-1)) (ci := 4) (C := RX4) (T := TX4) (N := 4) hx hb hts (in_X4_init_X4) tyX4 tyX4_ok nmX4 hown hK hM hS h_a rfl 2 (by decide) (hts (.fieldLink RX4 22 "GroupLog$Store" "stepsLeft" "I") (List.mem_of_getElem? (i := 9) rfl)) rfl rfl rfl (Nat.le_of_ble_eq_true rfl) dX4_init_50 (fun H locs M hM ha ho hS => ?_)
  have h_sa := (ho sa (mm_ne h_sa h_a mm_ao)).trans h_sa
  have h_a : _ = some (Sum.inr (4, [.ref sa, .int 0, .int (-1), .int 0]) : va_E) := ha
  have hI := st_keep hI (fun j hj => ⟨ho _ (mm_ne (hI j hj).2.1 h_aO (mm_oo (by decide))), ho _ (mm_ne (hI j hj).2.2.1 h_aO mm_ao)⟩)
  have hO := fun q hq hqa => (ho q hqa).trans (hO q hq hqa)
  refine lv_aload_n hx hb dX4_init_53 rfl (lv_at hl 0 rfl) ?_
  refine lv_iconst (v := 0) hx hb dX4_init_54 (by decide) ?_
  have h_aO := h_a
  refine mm_put (v := .int 0) (ci := 4) (C := RX4) (T := TX4) (N := 4) hx hb hts (in_X4_init_X4) tyX4 tyX4_ok nmX4 hown hK hM hS h_a rfl 3 (by decide) (hts (.fieldLink RX4 25 "GroupLog$Store" "part" "I") (List.mem_of_getElem? (i := 10) rfl)) rfl rfl rfl (Nat.le_of_ble_eq_true rfl) dX4_init_55 (fun H locs M hM ha ho hS => ?_)
  have h_sa := (ho sa (mm_ne h_sa h_a mm_ao)).trans h_sa
  have h_a : _ = some (Sum.inr (4, [.ref sa, .int 0, .int (-1), .int 0]) : va_E) := ha
  have hI := st_keep hI (fun j hj => ⟨ho _ (mm_ne (hI j hj).2.1 h_aO (mm_oo (by decide))), ho _ (mm_ne (hI j hj).2.2.1 h_aO mm_ao)⟩)
  have hO := fun q hq hqa => (ho q hqa).trans (hO q hq hqa)
  exact mm_vret hx hb hr hlk hM hS (⟨sa, fa, g, h, h_a, h_sa, hI, hO⟩) dX4_init_58

theorem in_X4_sector_X4 : ∀ w ∈ u_ws RX4 TX4 4, w ∈ wsX4_sector := fun w h => List.mem_cons_of_mem _ (List.mem_append_right _ h)
set_option maxHeartbeats 4000000 in
set_option maxRecDepth 100000 in
/-- Store.sector -/
theorem c_X4_sector {l : Launch} {D : va_G} {A : Nat → Prop} {cI cS cB cZ : ClassId} {M : Nat → Option va_E} {sz : Nat} {a sa y : Nat} {k l1 l2 : Int32} {fa : Nat → Option Nat} {i : Int32} (j : Nat) (hij : i = nI j) (hj : j < 64) (hy : fa j = some y) (h_a : M a = some (Sum.inr (4, [.ref sa, .int k, .int l1, .int l2]) : va_E)) (h_sa : M sa = some (Sum.inl (cS, 64, .inr (.inr (.inr (.inr (fa))))) : va_E)) : Met l yX4_sector wsX4_sector ({ frames := 0, cells := 0, slots := 0, locals := 0 }) (mm_Pc D A (mm_T cI cS cB cZ) M sz [.ref a, .int i]) (mm_Qr D A (fun r M1 => r = y ∧ M1 = M)) 0 0 A := by
  refine mm_met (cc := cX4_sector) (maxL := 2) (ret := (some (.object "GroupLog$Sector"))) (by decide) rfl (Nat.le_of_ble_eq_true rfl) ?_
  intro p e s m args below meth c hx hb hr hts hown hlk hin hml hsz hK hM hS ls hl
  subst hsz
  have hl : lv_has ls 2 [(0, .ref a), (1, .int i)] := hl
  refine lv_aload_n hx hb dX4_sector_0 rfl (lv_at hl 0 rfl) ?_
  refine mm_get (v := .ref sa) (ci := 4) (C := RX4) (T := TX4) (N := 4) hx hb hts (in_X4_sector_X4) hown hK hM h_a rfl 0 (by decide) (hts (.fieldLink RX4 11 "GroupLog$Store" "sectors" "[LGroupLog$Sector;") (List.mem_of_getElem? (i := 1) rfl)) rfl dX4_sector_1 ?_
  refine lv_iload_n hx hb dX4_sector_4 rfl (lv_at hl 1 rfl) ?_
  refine lv_if_lt (tgt := 21) hx hb dX4_sector_5 (by decide) (fun c_1 => ?_) (fun c_1 => ?_)
  · exact absurd c_1 (by rw [hij]; exact nI_pos (by omega))
  refine lv_iload_n hx hb dX4_sector_8 rfl (lv_at hl 1 rfl) ?_
  refine lv_aload_n hx hb dX4_sector_9 rfl (lv_at hl 0 rfl) ?_
  refine mm_get (v := .ref sa) (ci := 4) (C := RX4) (T := TX4) (N := 4) hx hb hts (in_X4_sector_X4) hown hK hM h_a rfl 0 (by decide) (hts (.fieldLink RX4 11 "GroupLog$Store" "sectors" "[LGroupLog$Sector;") (List.mem_of_getElem? (i := 1) rfl)) rfl dX4_sector_10 ?_
  refine mm_alen (v := 64) hx hb hK hM 1 h_sa rfl rfl dX4_sector_13 ?_
  refine lv_icmp_ge (tgt := 21) hx hb dX4_sector_14 (by decide) (fun c_2 => ?_) (fun c_2 => ?_)
  · exact absurd c_2 (by rw [hij]; exact nI_ge (b := 64) hj (by decide))
  refine lv_iload_n hx hb dX4_sector_17 rfl (lv_at hl 1 rfl) ?_
  refine lv_goto (tgt := 22) hx hb dX4_sector_18 (by decide) ?_
  refine mm_aldq (y := y) hx hb hK hM 1 h_sa rfl (j := j) (hij) (hj) (by decide) (hy) dX4_sector_22 ?_
  exact mm_aret hx hb hr hlk hM hS (⟨rfl, rfl⟩) dX4_sector_23

set_option maxHeartbeats 4000000 in
set_option maxRecDepth 100000 in
/-- Store.latestHead of a new disk -/
theorem c_X4_latestHead {l : Launch} {D : va_G} {A : Nat → Prop} {cI cS cB cZ : ClassId} {M : Nat → Option va_E} {sz : Nat} {a sa g0 h0 g1 h1 : Nat} {k l1 l2 : Int32} {fa : Nat → Option Nat} (y0 : fa 0 = some g0) (y1 : fa 1 = some g1) (h_a : M a = some (Sum.inr (4, [.ref sa, .int k, .int l1, .int l2]) : va_E)) (h_sa : M sa = some (Sum.inl (cS, 64, .inr (.inr (.inr (.inr (fa))))) : va_E)) (h_g0 : M g0 = some (Sum.inr (3, [.ref h0, .int 0]) : va_E)) (h_h0 : M h0 = some (Sum.inl (cI, 64, .inl (hd_f 1 1 1 2)) : va_E)) (h_g1 : M g1 = some (Sum.inr (3, [.ref h1, .int 0]) : va_E)) (h_h1 : M h1 = some (Sum.inl (cI, 64, .inl (fun _ => 0)) : va_E)) : Met l yX4_latestHead wsX4_latestHead ({ frames := 3, cells := 0, slots := 0, locals := 66 }) (mm_Pc D A (mm_T cI cS cB cZ) M sz [.ref a]) (mm_Qi D A (fun r M1 => r = 0 ∧ M1 = M)) 0 0 A := by
  refine mm_met (cc := cX4_latestHead) (maxL := 3) (ret := (some .int)) (by decide) rfl (Nat.le_of_ble_eq_true rfl) ?_
  intro p e s m args below meth c hx hb hr hts hown hlk hin hml hsz hK hM hS ls hl
  subst hsz
  have hl : lv_has ls 3 [(0, .ref a)] := hl
  refine lv_aload_n hx hb dX4_latestHead_0 rfl (lv_at hl 0 rfl) ?_
  refine lv_iconst (v := 0) hx hb dX4_latestHead_1 (by decide) ?_
  refine mm_callr (mm_runV (As := [.int 0]) (rest := []) ⟨hx, hb, hml, hown, hts⟩ (c_X4_sector 0 rfl (by decide) y0 h_a h_sa) (cwV 1 hts gX4_latestHead_X4_sector rfl rfl rfl (by decide +kernel) ⟨Nat.le_of_ble_eq_true rfl, Nat.le_of_ble_eq_true rfl⟩) hK hM h_a rfl rfl hl.1 rfl (Nat.le_of_ble_eq_true rfl) dX4_latestHead_2 ⟨Nat.le_of_ble_eq_true rfl, Nat.le_of_ble_eq_true rfl⟩) hS (fun _ h => h) (fun r1 M H locs hp hM hS hz _ => ?_)
  obtain ⟨rfl, hme⟩ := hp
  rw [hme] at hM
  refine mm_calli (mm_runV (As := []) (rest := []) ⟨hx, hb, hml, hown, hts⟩ (c_X3_good hd_sum hd_ver hd_rec hd_plc h_g0 h_h0) (cwV 0 hts gX4_latestHead_X3_isGoodHead rfl rfl rfl (by decide +kernel) ⟨Nat.le_of_ble_eq_true rfl, Nat.le_of_ble_eq_true rfl⟩) hK hM h_g0 rfl rfl hl.1 rfl (Nat.le_of_ble_eq_true rfl) dX4_latestHead_5 ⟨Nat.le_of_ble_eq_true rfl, Nat.le_of_ble_eq_true rfl⟩) hS (fun _ h => h) (fun r2 M H locs hp hM hS hz _ => ?_)
  obtain ⟨rfl, hme⟩ := hp
  rw [hme] at hM
  refine lv_istore_n (lv' := [(1, .int 1), (0, .ref a)]) hx hb dX4_latestHead_8 rfl hl (by decide) rfl (fun ls hl => ?_)
  refine lv_aload_n hx hb dX4_latestHead_9 rfl (lv_at hl 1 rfl) ?_
  refine lv_iconst (v := 1) hx hb dX4_latestHead_10 (by decide) ?_
  refine mm_callr (mm_runV (As := [.int 1]) (rest := []) ⟨hx, hb, hml, hown, hts⟩ (c_X4_sector 1 rfl (by decide) y1 h_a h_sa) (cwV 1 hts gX4_latestHead_X4_sector rfl rfl rfl (by decide +kernel) ⟨Nat.le_of_ble_eq_true rfl, Nat.le_of_ble_eq_true rfl⟩) hK hM h_a rfl rfl hl.1 rfl (Nat.le_of_ble_eq_true rfl) dX4_latestHead_11 ⟨Nat.le_of_ble_eq_true rfl, Nat.le_of_ble_eq_true rfl⟩) hS (fun _ h => h) (fun r3 M H locs hp hM hS hz _ => ?_)
  obtain ⟨rfl, hme⟩ := hp
  rw [hme] at hM
  refine mm_calli (mm_runV (As := []) (rest := []) ⟨hx, hb, hml, hown, hts⟩ (c_X3_bad hd_nul h_g1 h_h1) (cwV 0 hts gX4_latestHead_X3_isGoodHead rfl rfl rfl (by decide +kernel) ⟨Nat.le_of_ble_eq_true rfl, Nat.le_of_ble_eq_true rfl⟩) hK hM h_g1 rfl rfl hl.1 rfl (Nat.le_of_ble_eq_true rfl) dX4_latestHead_14 ⟨Nat.le_of_ble_eq_true rfl, Nat.le_of_ble_eq_true rfl⟩) hS (fun _ h => h) (fun r4 M H locs hp hM hS hz _ => ?_)
  obtain ⟨rfl, hme⟩ := hp
  rw [hme] at hM
  refine lv_istore_n (lv' := [(2, .int 0), (1, .int 1), (0, .ref a)]) hx hb dX4_latestHead_17 rfl hl (by decide) rfl (fun ls hl => ?_)
  refine lv_iload_n hx hb dX4_latestHead_18 rfl (lv_at hl 1 rfl) ?_
  refine lv_if_eq (tgt := 54) hx hb dX4_latestHead_19 (by decide) (fun c_5 => ?_) (fun c_5 => ?_)
  · exact absurd c_5 (by decide)
  refine lv_iload_n hx hb dX4_latestHead_22 rfl (lv_at hl 0 rfl) ?_
  refine lv_if_eq (tgt := 54) hx hb dX4_latestHead_23 (by decide) (fun c_6 => ?_) (fun c_6 => ?_)
  rotate_left
  · exact absurd c_6 (by decide)
  refine lv_iload_n hx hb dX4_latestHead_54 rfl (lv_at hl 1 rfl) ?_
  refine lv_if_eq (tgt := 62) hx hb dX4_latestHead_55 (by decide) (fun c_7 => ?_) (fun c_7 => ?_)
  · exact absurd c_7 (by decide)
  refine lv_iconst (v := 0) hx hb dX4_latestHead_58 (by decide) ?_
  refine lv_goto (tgt := 71) hx hb dX4_latestHead_59 (by decide) ?_
  exact mm_iret hx hb hr hlk hM hS (⟨rfl, rfl⟩) dX4_latestHead_71

set_option maxHeartbeats 4000000 in
set_option maxRecDepth 100000 in
/-- Store.headVersion of a new disk -/
theorem c_X4_headVersion {l : Launch} {D : va_G} {A : Nat → Prop} {cI cS cB cZ : ClassId} {M : Nat → Option va_E} {sz : Nat} {a sa g0 h0 g1 h1 : Nat} {k l1 l2 : Int32} {fa : Nat → Option Nat} (y0 : fa 0 = some g0) (y1 : fa 1 = some g1) (h_a : M a = some (Sum.inr (4, [.ref sa, .int k, .int l1, .int l2]) : va_E)) (h_sa : M sa = some (Sum.inl (cS, 64, .inr (.inr (.inr (.inr (fa))))) : va_E)) (h_g0 : M g0 = some (Sum.inr (3, [.ref h0, .int 0]) : va_E)) (h_h0 : M h0 = some (Sum.inl (cI, 64, .inl (hd_f 1 1 1 2)) : va_E)) (h_g1 : M g1 = some (Sum.inr (3, [.ref h1, .int 0]) : va_E)) (h_h1 : M h1 = some (Sum.inl (cI, 64, .inl (fun _ => 0)) : va_E)) : Met l yX4_headVersion wsX4_headVersion ({ frames := 4, cells := 0, slots := 0, locals := 88 }) (mm_Pc D A (mm_T cI cS cB cZ) M sz [.ref a]) (mm_Qi D A (fun r M1 => r = 1 ∧ M1 = M)) 0 0 A := by
  refine mm_met (cc := cX4_headVersion) (maxL := 2) (ret := (some .int)) (by decide) rfl (Nat.le_of_ble_eq_true rfl) ?_
  intro p e s m args below meth c hx hb hr hts hown hlk hin hml hsz hK hM hS ls hl
  subst hsz
  have hl : lv_has ls 2 [(0, .ref a)] := hl
  refine lv_aload_n hx hb dX4_headVersion_0 rfl (lv_at hl 0 rfl) ?_
  refine mm_calli (mm_runV (As := []) (rest := []) ⟨hx, hb, hml, hown, hts⟩ (c_X4_latestHead y0 y1 h_a h_sa h_g0 h_h0 h_g1 h_h1) (cwV 0 hts gX4_headVersion_X4_latestHead rfl rfl rfl (by decide +kernel) ⟨Nat.le_of_ble_eq_true rfl, Nat.le_of_ble_eq_true rfl⟩) hK hM h_a rfl rfl hl.1 rfl (Nat.le_of_ble_eq_true rfl) dX4_headVersion_1 ⟨Nat.le_of_ble_eq_true rfl, Nat.le_of_ble_eq_true rfl⟩) hS (fun _ h => h) (fun r1 M H locs hp hM hS hz _ => ?_)
  obtain ⟨rfl, hme⟩ := hp
  rw [hme] at hM
  refine lv_istore_n (lv' := [(1, .int 0), (0, .ref a)]) hx hb dX4_headVersion_4 rfl hl (by decide) rfl (fun ls hl => ?_)
  refine lv_iload_n hx hb dX4_headVersion_5 rfl (lv_at hl 0 rfl) ?_
  refine lv_iconst (v := (-1)) hx hb dX4_headVersion_6 (by decide) ?_
  refine lv_icmp_ne (tgt := 14) hx hb dX4_headVersion_7 (by decide) (fun c_2 => ?_) (fun c_2 => ?_)
  rotate_left
  · exact absurd c_2 (by decide)
  refine lv_aload_n hx hb dX4_headVersion_14 rfl (lv_at hl 1 rfl) ?_
  refine lv_iload_n hx hb dX4_headVersion_15 rfl (lv_at hl 0 rfl) ?_
  refine mm_callr (mm_runV (As := [.int 0]) (rest := []) ⟨hx, hb, hml, hown, hts⟩ (c_X4_sector 0 rfl (by decide) y0 h_a h_sa) (cwV 1 hts gX4_headVersion_X4_sector rfl rfl rfl (by decide +kernel) ⟨Nat.le_of_ble_eq_true rfl, Nat.le_of_ble_eq_true rfl⟩) hK hM h_a rfl rfl hl.1 rfl (Nat.le_of_ble_eq_true rfl) dX4_headVersion_16 ⟨Nat.le_of_ble_eq_true rfl, Nat.le_of_ble_eq_true rfl⟩) hS (fun _ h => h) (fun r3 M H locs hp hM hS hz _ => ?_)
  obtain ⟨rfl, hme⟩ := hp
  rw [hme] at hM
  refine mm_calli (mm_runV (As := []) (rest := []) ⟨hx, hb, hml, hown, hts⟩ (c_X3_headVersion h_g0 h_h0) (cwV 0 hts gX4_headVersion_X3_headVersion rfl rfl rfl (by decide +kernel) ⟨Nat.le_of_ble_eq_true rfl, Nat.le_of_ble_eq_true rfl⟩) hK hM h_g0 rfl rfl hl.1 rfl (Nat.le_of_ble_eq_true rfl) dX4_headVersion_19 ⟨Nat.le_of_ble_eq_true rfl, Nat.le_of_ble_eq_true rfl⟩) hS (fun _ h => h) (fun r4 M H locs hp hM hS hz _ => ?_)
  obtain ⟨rfl, hme⟩ := hp
  rw [hme] at hM
  exact mm_iret hx hb hr hlk hM hS (⟨hd_ver, rfl⟩) dX4_headVersion_22

theorem in_X4_write_X4 : ∀ w ∈ u_ws RX4 TX4 4, w ∈ wsX4_write := fun w h => List.mem_cons_of_mem _ (List.mem_append_left _ (List.mem_append_right _ h))
set_option maxHeartbeats 4000000 in
set_option maxRecDepth 100000 in
/-- Store.write(1, ..), not armed -/
theorem c_X4_write {l : Launch} {D : va_G} {A : Nat → Prop} {cI cS cB cZ : ClassId} {M : Nat → Option va_E} {sz : Nat} {a sa g1 h1 dr db : Nat} {fa : Nat → Option Nat} {f1 fd : Nat → Int32} (y1 : fa 1 = some g1) (hne : h1 ≠ db) (h_a : M a = some (Sum.inr (4, [.ref sa, .int 0, .int (-1), .int 0]) : va_E)) (h_sa : M sa = some (Sum.inl (cS, 64, .inr (.inr (.inr (.inr (fa))))) : va_E)) (h_g1 : M g1 = some (Sum.inr (3, [.ref h1, .int 0]) : va_E)) (h_h1 : M h1 = some (Sum.inl (cI, 64, .inl (f1)) : va_E)) (h_dr : M dr = some (Sum.inr (3, [.ref db, .int 0]) : va_E)) (h_db : M db = some (Sum.inl (cI, 64, .inl (fd)) : va_E)) : Met l yX4_write wsX4_write ({ frames := 3, cells := 0, slots := 0, locals := 66 }) (mm_Pc D A (mm_T cI cS cB cZ) M sz [.ref a, .int 1, .ref dr]) (mm_Qi D A (fun r M1 => r = 1 ∧ ∀ q, q ≠ a → q ≠ g1 → q ≠ h1 → M1 q = M q)) 0 0 A := by
  refine mm_met (cc := cX4_write) (maxL := 3) (ret := (some .boolean)) (by decide) rfl (Nat.le_of_ble_eq_true rfl) ?_
  intro p e s m args below meth c hx hb hr hts hown hlk hin hml hsz hK hM hS ls hl
  subst hsz
  have hl : lv_has ls 3 [(0, .ref a), (1, .int 1), (2, .ref dr)] := hl
  refine lv_aload_n hx hb dX4_write_0 rfl (lv_at hl 0 rfl) ?_
  refine mm_get (v := .int (-1)) (ci := 4) (C := RX4) (T := TX4) (N := 4) hx hb hts (in_X4_write_X4) hown hK hM h_a rfl 2 (by decide) (hts (.fieldLink RX4 22 "GroupLog$Store" "stepsLeft" "I") (List.mem_of_getElem? (i := 1) rfl)) rfl dX4_write_1 ?_
  refine lv_if_ne (tgt := 22) hx hb dX4_write_4 (by decide) (fun c_1 => ?_) (fun c_1 => ?_)
  rotate_left
  · exact absurd c_1 (by decide)
  refine lv_aload_n hx hb dX4_write_22 rfl (lv_at hl 0 rfl) ?_
  refine mm_get (v := .int (-1)) (ci := 4) (C := RX4) (T := TX4) (N := 4) hx hb hts (in_X4_write_X4) hown hK hM h_a rfl 2 (by decide) (hts (.fieldLink RX4 22 "GroupLog$Store" "stepsLeft" "I") (List.mem_of_getElem? (i := 1) rfl)) rfl dX4_write_23 ?_
  refine lv_if_le (tgt := 39) hx hb dX4_write_26 (by decide) (fun c_2 => ?_) (fun c_2 => ?_)
  rotate_left
  · exact absurd c_2 (by decide)
  refine lv_aload_n hx hb dX4_write_39 rfl (lv_at hl 0 rfl) ?_
  refine lv_iload_n hx hb dX4_write_40 rfl (lv_at hl 1 rfl) ?_
  refine mm_callr (mm_runV (As := [.int 1]) (rest := []) ⟨hx, hb, hml, hown, hts⟩ (c_X4_sector 1 rfl (by decide) y1 h_a h_sa) (cwV 1 hts gX4_write_X4_sector rfl rfl rfl (by decide +kernel) ⟨Nat.le_of_ble_eq_true rfl, Nat.le_of_ble_eq_true rfl⟩) hK hM h_a rfl rfl hl.1 rfl (Nat.le_of_ble_eq_true rfl) dX4_write_41 ⟨Nat.le_of_ble_eq_true rfl, Nat.le_of_ble_eq_true rfl⟩) hS (fun _ h => h) (fun r3 M H locs hp hM hS hz _ => ?_)
  obtain ⟨rfl, hme⟩ := hp
  rw [hme] at hM
  refine lv_aload_n hx hb dX4_write_44 rfl (lv_at hl 2 rfl) ?_
  refine mm_callv (mm_runV (As := [.ref dr]) (rest := []) ⟨hx, hb, hml, hown, hts⟩ (c_X3_takeWhole hne h_g1 h_h1 h_dr h_db) (cwV 1 hts gX4_write_X3_takeWhole rfl rfl rfl (by decide +kernel) ⟨Nat.le_of_ble_eq_true rfl, Nat.le_of_ble_eq_true rfl⟩) hK hM h_g1 rfl rfl hl.1 rfl (Nat.le_of_ble_eq_true rfl) dX4_write_45 ⟨Nat.le_of_ble_eq_true rfl, Nat.le_of_ble_eq_true rfl⟩) hS (fun _ h => h) (fun M H locs hp hM hS hz _ => ?_)
  have ho0 := hp
  have h_a := (ho0 a (mm_ne h_a h_g1 (mm_oo (by decide))) (mm_ne h_a h_h1 mm_oa)).trans h_a
  refine lv_aload_n hx hb dX4_write_48 rfl (lv_at hl 0 rfl) ?_
  refine lv_dup hx hb dX4_write_49 rfl ?_
  refine mm_get (v := .int 0) (ci := 4) (C := RX4) (T := TX4) (N := 4) hx hb hts (in_X4_write_X4) hown hK hM h_a rfl 1 (by decide) (hts (.fieldLink RX4 18 "GroupLog$Store" "steps" "I") (List.mem_of_getElem? (i := 3) rfl)) rfl dX4_write_50 ?_
  refine lv_iconst (v := 1) hx hb dX4_write_53 (by decide) ?_
  refine lv_iadd hx hb dX4_write_54 ?_
  refine lv_topi (fun z4 ez4 => ?_)
  have ez4 : z4 = 1 := ez4.trans (by decide)
  subst ez4
  refine mm_put (v := .int 1) (ci := 4) (C := RX4) (T := TX4) (N := 4) hx hb hts (in_X4_write_X4) tyX4 tyX4_ok nmX4 hown hK hM hS h_a rfl 1 (by decide) (hts (.fieldLink RX4 18 "GroupLog$Store" "steps" "I") (List.mem_of_getElem? (i := 3) rfl)) rfl rfl rfl (Nat.le_of_ble_eq_true rfl) dX4_write_55 (fun H locs M hM ha ho hS => ?_)
  have h_a : _ = some (Sum.inr (4, [.ref sa, .int 1, .int (-1), .int 0]) : va_E) := ha
  refine lv_iconst (v := 1) hx hb dX4_write_58 (by decide) ?_
  exact mm_zret hx hb hr hlk (rfl) hM hS (⟨rfl, fun q h1 h2 h3 => by rw [ho q h1, ho0 q h2 h3]⟩) dX4_write_59
end
section
theorem in_X5_init_X0 : ∀ w ∈ u_ws RX0 TX0 8, w ∈ wsX5_init := fun w h => List.mem_cons_of_mem _ (List.mem_append_left _ (List.mem_append_left _ (List.mem_append_right _ h)))
theorem in_X5_init_X1 : ∀ w ∈ u_ws RX1 TX1 4, w ∈ wsX5_init := fun w h => List.mem_cons_of_mem _ (List.mem_append_left _ (List.mem_append_left _ (List.mem_append_left _ (List.mem_append_right _ h))))
theorem in_X5_init_X2 : ∀ w ∈ u_ws RX2 TX2 5, w ∈ wsX5_init := fun w h => List.mem_cons_of_mem _ (List.mem_append_left _ (List.mem_append_right _ h))
theorem in_X5_init_X3 : ∀ w ∈ u_ws RX3 TX3 2, w ∈ wsX5_init := fun w h => List.mem_cons_of_mem _ (List.mem_append_right _ h)
theorem in_X5_init_X4 : ∀ w ∈ u_ws RX4 TX4 4, w ∈ wsX5_init := fun w h => List.mem_cons_of_mem _ (List.mem_append_left _ (List.mem_append_left _ (List.mem_append_left _ (List.mem_append_left _ (List.mem_append_left _ (List.mem_append_right _ h))))))
theorem in_X5_init_X5 : ∀ w ∈ u_ws RX5 TX5 10, w ∈ wsX5_init := fun w h => List.mem_cons_of_mem _ (List.mem_append_left _ (List.mem_append_left _ (List.mem_append_left _ (List.mem_append_left _ (List.mem_append_right _ h)))))
set_option maxHeartbeats 4000000 in
set_option maxRecDepth 100000 in
/-- GroupLog() -/
theorem c_X5_init {l : Launch} {D : va_G} {A : Nat → Prop} {cI cS cB cZ : ClassId} {M : Nat → Option va_E} {sz : Nat} (hA : ∀ q, sz ≤ q → A q) {x : Nat} (h_x : M x = some (Sum.inr (5, [.null, .null, .null, .null, .null, .null, .int 0, .int 0, .int 0, .int 0]) : va_E)) : Met l yX5_init wsX5_init ({ frames := 3, cells := 139, slots := 5699, locals := 70 }) (mm_Pc D A (mm_T cI cS cB cZ) M sz [.ref x]) (mm_Qv D A (fun M1 => ∃ (st qu lg rd dr tp sa qb lb db : Nat) (fa : Nat → Option Nat) (g h : Nat → Nat), M1 x = some (Sum.inr (5, [.ref st, .ref qu, .ref lg, .ref rd, .ref dr, .ref tp, .int 0, .int 10, .int 0, .int 1]) : va_E) ∧ M1 st = some (Sum.inr (4, [.ref sa, .int 0, .int (-1), .int 0]) : va_E) ∧ M1 sa = some (Sum.inl (cS, 64, .inr (.inr (.inr (.inr (fa))))) : va_E) ∧ M1 qu = some (Sum.inr (1, [.ref qb, .int 0, .int 0, .int 0]) : va_E) ∧ M1 lg = some (Sum.inr (0, [.ref lb, .int 1, .int 1, .int 0, .int 2, .int 0, .int 2, .int 1]) : va_E) ∧ M1 dr = some (Sum.inr (3, [.ref db, .int 0]) : va_E) ∧ M1 db = some (Sum.inl (cI, 64, .inl (fun _ => 0)) : va_E) ∧ M1 tp = some (Sum.inl (cI, 200, .inl (fun _ => 0)) : va_E) ∧ st_inv cI M1 fa g h gl_F 64 ∧ h 1 ≠ db)) 139 5699 A := by
  refine mm_met (cc := cX5_init) (maxL := 1) (ret := none) (by decide) rfl (Nat.le_of_ble_eq_true rfl) ?_
  intro p e s m args below meth c hx hb hr hts hown hlk hin hml hsz hK hM hS ls hl
  subst hsz
  have hl : lv_has ls 1 [(0, .ref x)] := hl
  refine lv_aload_n hx hb dX5_init_0 rfl (lv_at hl 0 rfl) ?_
  refine W.objInit hx hb hown (hts (.methodLink RX5 3 objectInit) (List.mem_of_getElem? (i := 1) rfl)) (hts (.instanceMethod objectInit) (List.mem_of_getElem? (i := 2) rfl)) (hts _ (List.mem_of_getElem? (i := 3) rfl)) rfl (by rw [hml]; exact hl.1) rfl dX5_init_1 (Nat.le_of_ble_eq_true rfl) (Nat.le_of_ble_eq_true rfl) ?_
  refine W.eq (g2 := F0 m 4 ls []) rfl ?_
  refine lv_aload_n hx hb dX5_init_4 rfl (lv_at hl 0 rfl) ?_
  refine mm_new (ci := 4) (fs := [.null, .int 0, .int 0, .int 0]) (C := RX4) (T := TX4) (N := 4) hx hb hts (in_X5_init_X4) tyX4 tyX4_ok hown (hts (.classLink RX5 9 RX4) (List.mem_of_getElem? (i := 4) rfl)) (hts (.instantiable RX4 4) (List.mem_of_getElem? (i := 5) rfl)) (hts (.initialized RX4) (List.mem_of_getElem? (i := 6) rfl)) hK hM hS hA rfl (def_X4) (Nat.le_of_ble_eq_true rfl) (Nat.le_of_ble_eq_true rfl) dX5_init_5 (fun st H M hM ha hn ho hS => ?_)
  have n_x_st : x ≠ st := mm_nn h_x hn
  have h_x := (ho x n_x_st).trans h_x
  have h_st : _ = some (Sum.inr (4, [.null, .int 0, .int 0, .int 0]) : va_E) := ha
  refine W.widen (k := 1) (n := 4) (by omega) (by omega) ?_
  refine lv_dup hx hb dX5_init_8 rfl ?_
  refine mm_callv (mm_runI (As := []) (rest := [.ref st, .ref x]) ⟨hx, hb, hml, hown, hts⟩ (c_X4_init (mm_hA hA hS) h_st) (cwI 0 hts gX5_init_X4_init rfl rfl rfl (hts (.initialized RX4) (List.mem_of_getElem? (i := 6) rfl)) (hts (.methodLink RX5 11 yX4_init) (List.mem_of_getElem? (i := 30) rfl)) (hts (.instanceMethod yX4_init) (List.mem_of_getElem? (i := 31) rfl)) rfl (by decide +kernel) ⟨Nat.le_of_ble_eq_true rfl, Nat.le_of_ble_eq_true rfl⟩) hK hM rfl hl.1 rfl (Nat.le_of_ble_eq_true rfl) dX5_init_9 ⟨Nat.le_of_ble_eq_true rfl, Nat.le_of_ble_eq_true rfl⟩) hS (fun _ h => h) (fun M H locs hp hM hS hz _ => ?_)
  refine W.widen (k := 130) (n := 4292) (by omega) (by omega) ?_
  obtain ⟨sa, fa, g, h, ha, hsa, hI, hO⟩ := hp
  have h_x := (hO x (by rw [h_x]; exact fun h => by cases h) n_x_st).trans h_x
  have h_st : _ = some (Sum.inr (4, [.ref sa, .int 0, .int (-1), .int 0]) : va_E) := ha
  have h_sa : _ = some (Sum.inl (cS, 64, .inr (.inr (.inr (.inr (fa))))) : va_E) := hsa
  have h_xO := h_x
  refine mm_putF (v := .ref st) (ci := 5) (C := RX5) (T := TX5) (N := 10) hx hb hts (in_X5_init_X5) tyX5 tyX5_ok nmX5 hown hK hM hS h_x rfl 0 (by decide) (hts (.fieldLink RX5 12 "GroupLog" "store" "LGroupLog$Store;") (List.mem_of_getElem? (i := 7) rfl)) rfl hin rfl rfl rfl (Nat.le_of_ble_eq_true rfl) dX5_init_12 (fun H locs M hM ha ho hS => ?_)
  have h_st := (ho st (Ne.symm n_x_st)).trans h_st
  have h_sa := (ho sa (mm_ne h_sa h_x mm_ao)).trans h_sa
  have h_x : _ = some (Sum.inr (5, [.ref st, .null, .null, .null, .null, .null, .int 0, .int 0, .int 0, .int 0]) : va_E) := ha
  have hI := st_keep hI (fun j hj => ⟨ho _ (mm_ne (hI j hj).2.1 h_xO (mm_oo (by decide))), ho _ (mm_ne (hI j hj).2.2.1 h_xO mm_ao)⟩)
  refine lv_aload_n hx hb dX5_init_15 rfl (lv_at hl 0 rfl) ?_
  refine mm_new (ci := 1) (fs := [.null, .int 0, .int 0, .int 0]) (C := RX1) (T := TX1) (N := 4) hx hb hts (in_X5_init_X1) tyX1 tyX1_ok hown (hts (.classLink RX5 16 RX1) (List.mem_of_getElem? (i := 8) rfl)) (hts (.instantiable RX1 4) (List.mem_of_getElem? (i := 9) rfl)) (hts (.initialized RX1) (List.mem_of_getElem? (i := 10) rfl)) hK hM hS hA rfl (def_X1) (Nat.le_of_ble_eq_true rfl) (Nat.le_of_ble_eq_true rfl) dX5_init_16 (fun qu H M hM ha hn ho hS => ?_)
  have n_x_qu : x ≠ qu := mm_nn h_x hn
  have h_x := (ho x n_x_qu).trans h_x
  have n_st_qu : st ≠ qu := mm_nn h_st hn
  have h_st := (ho st n_st_qu).trans h_st
  have n_sa_qu : sa ≠ qu := mm_nn h_sa hn
  have h_sa := (ho sa n_sa_qu).trans h_sa
  have h_qu : _ = some (Sum.inr (1, [.null, .int 0, .int 0, .int 0]) : va_E) := ha
  refine W.widen (k := 131) (n := 4296) (by omega) (by omega) ?_
  have gn_qu : ∀ j, j < 64 → g j ≠ qu ∧ h j ≠ qu := fun j hj => ⟨mm_nn (hI j hj).2.1 hn, mm_nn (hI j hj).2.2.1 hn⟩
  have hI := st_keep hI (fun j hj => ⟨ho _ (gn_qu j hj).1, ho _ (gn_qu j hj).2⟩)
  refine lv_dup hx hb dX5_init_19 rfl ?_
  refine mm_callv (mm_runI (As := []) (rest := [.ref qu, .ref x]) ⟨hx, hb, hml, hown, hts⟩ (c_X1_init (mm_hA hA hS) h_qu) (cwI 0 hts gX5_init_X1_init rfl rfl rfl (hts (.initialized RX1) (List.mem_of_getElem? (i := 10) rfl)) (hts (.methodLink RX5 18 yX1_init) (List.mem_of_getElem? (i := 45) rfl)) (hts (.instanceMethod yX1_init) (List.mem_of_getElem? (i := 46) rfl)) rfl (by decide +kernel) ⟨Nat.le_of_ble_eq_true rfl, Nat.le_of_ble_eq_true rfl⟩) hK hM rfl hl.1 rfl (Nat.le_of_ble_eq_true rfl) dX5_init_20 ⟨Nat.le_of_ble_eq_true rfl, Nat.le_of_ble_eq_true rfl⟩) hS (fun _ h => h) (fun M H locs hp hM hS hz _ => ?_)
  refine W.widen (k := 132) (n := 4902) (by omega) (by omega) ?_
  obtain ⟨qb, ha, hb2, hO⟩ := hp
  have h_x := (hO x (by rw [h_x]; exact fun h => by cases h) n_x_qu).trans h_x
  have h_st := (hO st (by rw [h_st]; exact fun h => by cases h) n_st_qu).trans h_st
  have h_sa := (hO sa (by rw [h_sa]; exact fun h => by cases h) n_sa_qu).trans h_sa
  have hI := st_keep hI (fun j hj => ⟨hO _ (by rw [(hI j hj).2.1]; exact fun h => by cases h) (gn_qu j hj).1, hO _ (by rw [(hI j hj).2.2.1]; exact fun h => by cases h) (gn_qu j hj).2⟩)
  have h_qu : _ = some (Sum.inr (1, [.ref qb, .int 0, .int 0, .int 0]) : va_E) := ha
  have h_xO := h_x
  refine mm_putF (v := .ref qu) (ci := 5) (C := RX5) (T := TX5) (N := 10) hx hb hts (in_X5_init_X5) tyX5 tyX5_ok nmX5 hown hK hM hS h_x rfl 1 (by decide) (hts (.fieldLink RX5 19 "GroupLog" "queue" "LGroupLog$Queue;") (List.mem_of_getElem? (i := 11) rfl)) rfl hin rfl rfl rfl (Nat.le_of_ble_eq_true rfl) dX5_init_23 (fun H locs M hM ha ho hS => ?_)
  have h_st := (ho st (Ne.symm n_x_st)).trans h_st
  have h_sa := (ho sa (mm_ne h_sa h_x mm_ao)).trans h_sa
  have h_qu := (ho qu (Ne.symm n_x_qu)).trans h_qu
  have h_x : _ = some (Sum.inr (5, [.ref st, .ref qu, .null, .null, .null, .null, .int 0, .int 0, .int 0, .int 0]) : va_E) := ha
  have hI := st_keep hI (fun j hj => ⟨ho _ (mm_ne (hI j hj).2.1 h_xO (mm_oo (by decide))), ho _ (mm_ne (hI j hj).2.2.1 h_xO mm_ao)⟩)
  refine lv_aload_n hx hb dX5_init_26 rfl (lv_at hl 0 rfl) ?_
  refine mm_new (ci := 0) (fs := [.null, .int 0, .int 0, .int 0, .int 0, .int 0, .int 0, .int 0]) (C := RX0) (T := TX0) (N := 8) hx hb hts (in_X5_init_X0) tyX0 tyX0_ok hown (hts (.classLink RX5 23 RX0) (List.mem_of_getElem? (i := 12) rfl)) (hts (.instantiable RX0 8) (List.mem_of_getElem? (i := 13) rfl)) (hts (.initialized RX0) (List.mem_of_getElem? (i := 14) rfl)) hK hM hS hA rfl (def_X0) (Nat.le_of_ble_eq_true rfl) (Nat.le_of_ble_eq_true rfl) dX5_init_27 (fun lg H M hM ha hn ho hS => ?_)
  have n_x_lg : x ≠ lg := mm_nn h_x hn
  have h_x := (ho x n_x_lg).trans h_x
  have n_st_lg : st ≠ lg := mm_nn h_st hn
  have h_st := (ho st n_st_lg).trans h_st
  have n_sa_lg : sa ≠ lg := mm_nn h_sa hn
  have h_sa := (ho sa n_sa_lg).trans h_sa
  have n_qu_lg : qu ≠ lg := mm_nn h_qu hn
  have h_qu := (ho qu n_qu_lg).trans h_qu
  have h_lg : _ = some (Sum.inr (0, [.null, .int 0, .int 0, .int 0, .int 0, .int 0, .int 0, .int 0]) : va_E) := ha
  refine W.widen (k := 133) (n := 4910) (by omega) (by omega) ?_
  have gn_lg : ∀ j, j < 64 → g j ≠ lg ∧ h j ≠ lg := fun j hj => ⟨mm_nn (hI j hj).2.1 hn, mm_nn (hI j hj).2.2.1 hn⟩
  have hI := st_keep hI (fun j hj => ⟨ho _ (gn_lg j hj).1, ho _ (gn_lg j hj).2⟩)
  refine lv_dup hx hb dX5_init_30 rfl ?_
  refine mm_callv (mm_runI (As := []) (rest := [.ref lg, .ref x]) ⟨hx, hb, hml, hown, hts⟩ (c_X0_init (mm_hA hA hS) h_lg) (cwI 0 hts gX5_init_X0_init rfl rfl rfl (hts (.initialized RX0) (List.mem_of_getElem? (i := 14) rfl)) (hts (.methodLink RX5 25 yX0_init) (List.mem_of_getElem? (i := 53) rfl)) (hts (.instanceMethod yX0_init) (List.mem_of_getElem? (i := 54) rfl)) rfl (by decide +kernel) ⟨Nat.le_of_ble_eq_true rfl, Nat.le_of_ble_eq_true rfl⟩) hK hM rfl hl.1 rfl (Nat.le_of_ble_eq_true rfl) dX5_init_31 ⟨Nat.le_of_ble_eq_true rfl, Nat.le_of_ble_eq_true rfl⟩) hS (fun _ h => h) (fun M H locs hp hM hS hz _ => ?_)
  refine W.widen (k := 134) (n := 5422) (by omega) (by omega) ?_
  obtain ⟨lb, ha, hb2, hO⟩ := hp
  have h_x := (hO x (by rw [h_x]; exact fun h => by cases h) n_x_lg).trans h_x
  have h_st := (hO st (by rw [h_st]; exact fun h => by cases h) n_st_lg).trans h_st
  have h_sa := (hO sa (by rw [h_sa]; exact fun h => by cases h) n_sa_lg).trans h_sa
  have h_qu := (hO qu (by rw [h_qu]; exact fun h => by cases h) n_qu_lg).trans h_qu
  have hI := st_keep hI (fun j hj => ⟨hO _ (by rw [(hI j hj).2.1]; exact fun h => by cases h) (gn_lg j hj).1, hO _ (by rw [(hI j hj).2.2.1]; exact fun h => by cases h) (gn_lg j hj).2⟩)
  have h_lg : _ = some (Sum.inr (0, [.ref lb, .int 1, .int 1, .int 0, .int 2, .int 0, .int 2, .int 1]) : va_E) := ha
  have h_xO := h_x
  refine mm_putF (v := .ref lg) (ci := 5) (C := RX5) (T := TX5) (N := 10) hx hb hts (in_X5_init_X5) tyX5 tyX5_ok nmX5 hown hK hM hS h_x rfl 2 (by decide) (hts (.fieldLink RX5 26 "GroupLog" "log" "LGroupLog$Log;") (List.mem_of_getElem? (i := 15) rfl)) rfl hin rfl rfl rfl (Nat.le_of_ble_eq_true rfl) dX5_init_34 (fun H locs M hM ha ho hS => ?_)
  have h_st := (ho st (Ne.symm n_x_st)).trans h_st
  have h_sa := (ho sa (mm_ne h_sa h_x mm_ao)).trans h_sa
  have h_qu := (ho qu (Ne.symm n_x_qu)).trans h_qu
  have h_lg := (ho lg (Ne.symm n_x_lg)).trans h_lg
  have h_x : _ = some (Sum.inr (5, [.ref st, .ref qu, .ref lg, .null, .null, .null, .int 0, .int 0, .int 0, .int 0]) : va_E) := ha
  have hI := st_keep hI (fun j hj => ⟨ho _ (mm_ne (hI j hj).2.1 h_xO (mm_oo (by decide))), ho _ (mm_ne (hI j hj).2.2.1 h_xO mm_ao)⟩)
  refine lv_aload_n hx hb dX5_init_37 rfl (lv_at hl 0 rfl) ?_
  refine mm_new (ci := 2) (fs := [.null, .int 0, .int 0, .int 0, .int 0]) (C := RX2) (T := TX2) (N := 5) hx hb hts (in_X5_init_X2) tyX2 tyX2_ok hown (hts (.classLink RX5 30 RX2) (List.mem_of_getElem? (i := 16) rfl)) (hts (.instantiable RX2 5) (List.mem_of_getElem? (i := 17) rfl)) (hts (.initialized RX2) (List.mem_of_getElem? (i := 18) rfl)) hK hM hS hA rfl (def_X2) (Nat.le_of_ble_eq_true rfl) (Nat.le_of_ble_eq_true rfl) dX5_init_38 (fun rd H M hM ha hn ho hS => ?_)
  have n_x_rd : x ≠ rd := mm_nn h_x hn
  have h_x := (ho x n_x_rd).trans h_x
  have n_st_rd : st ≠ rd := mm_nn h_st hn
  have h_st := (ho st n_st_rd).trans h_st
  have n_sa_rd : sa ≠ rd := mm_nn h_sa hn
  have h_sa := (ho sa n_sa_rd).trans h_sa
  have n_qu_rd : qu ≠ rd := mm_nn h_qu hn
  have h_qu := (ho qu n_qu_rd).trans h_qu
  have n_lg_rd : lg ≠ rd := mm_nn h_lg hn
  have h_lg := (ho lg n_lg_rd).trans h_lg
  have h_rd : _ = some (Sum.inr (2, [.null, .int 0, .int 0, .int 0, .int 0]) : va_E) := ha
  refine W.widen (k := 135) (n := 5427) (by omega) (by omega) ?_
  have gn_rd : ∀ j, j < 64 → g j ≠ rd ∧ h j ≠ rd := fun j hj => ⟨mm_nn (hI j hj).2.1 hn, mm_nn (hI j hj).2.2.1 hn⟩
  have hI := st_keep hI (fun j hj => ⟨ho _ (gn_rd j hj).1, ho _ (gn_rd j hj).2⟩)
  refine lv_dup hx hb dX5_init_41 rfl ?_
  refine mm_callv (mm_runI (As := []) (rest := [.ref rd, .ref x]) ⟨hx, hb, hml, hown, hts⟩ (c_X2_init (mm_hA hA hS) h_rd) (cwI 0 hts gX5_init_X2_init rfl rfl rfl (hts (.initialized RX2) (List.mem_of_getElem? (i := 18) rfl)) (hts (.methodLink RX5 32 yX2_init) (List.mem_of_getElem? (i := 69) rfl)) (hts (.instanceMethod yX2_init) (List.mem_of_getElem? (i := 70) rfl)) rfl (by decide +kernel) ⟨Nat.le_of_ble_eq_true rfl, Nat.le_of_ble_eq_true rfl⟩) hK hM rfl hl.1 rfl (Nat.le_of_ble_eq_true rfl) dX5_init_42 ⟨Nat.le_of_ble_eq_true rfl, Nat.le_of_ble_eq_true rfl⟩) hS (fun _ h => h) (fun M H locs hp hM hS hz _ => ?_)
  refine W.widen (k := 136) (n := 5433) (by omega) (by omega) ?_
  obtain ⟨rb, ha, hb2, hO⟩ := hp
  have h_x := (hO x (by rw [h_x]; exact fun h => by cases h) n_x_rd).trans h_x
  have h_st := (hO st (by rw [h_st]; exact fun h => by cases h) n_st_rd).trans h_st
  have h_sa := (hO sa (by rw [h_sa]; exact fun h => by cases h) n_sa_rd).trans h_sa
  have h_qu := (hO qu (by rw [h_qu]; exact fun h => by cases h) n_qu_rd).trans h_qu
  have h_lg := (hO lg (by rw [h_lg]; exact fun h => by cases h) n_lg_rd).trans h_lg
  have hI := st_keep hI (fun j hj => ⟨hO _ (by rw [(hI j hj).2.1]; exact fun h => by cases h) (gn_rd j hj).1, hO _ (by rw [(hI j hj).2.2.1]; exact fun h => by cases h) (gn_rd j hj).2⟩)
  have h_xO := h_x
  refine mm_putF (v := .ref rd) (ci := 5) (C := RX5) (T := TX5) (N := 10) hx hb hts (in_X5_init_X5) tyX5 tyX5_ok nmX5 hown hK hM hS h_x rfl 3 (by decide) (hts (.fieldLink RX5 33 "GroupLog" "reader" "LGroupLog$Reader;") (List.mem_of_getElem? (i := 19) rfl)) rfl hin rfl rfl rfl (Nat.le_of_ble_eq_true rfl) dX5_init_45 (fun H locs M hM ha ho hS => ?_)
  have h_st := (ho st (Ne.symm n_x_st)).trans h_st
  have h_sa := (ho sa (mm_ne h_sa h_x mm_ao)).trans h_sa
  have h_qu := (ho qu (Ne.symm n_x_qu)).trans h_qu
  have h_lg := (ho lg (Ne.symm n_x_lg)).trans h_lg
  have h_x : _ = some (Sum.inr (5, [.ref st, .ref qu, .ref lg, .ref rd, .null, .null, .int 0, .int 0, .int 0, .int 0]) : va_E) := ha
  have hI := st_keep hI (fun j hj => ⟨ho _ (mm_ne (hI j hj).2.1 h_xO (mm_oo (by decide))), ho _ (mm_ne (hI j hj).2.2.1 h_xO mm_ao)⟩)
  refine lv_aload_n hx hb dX5_init_48 rfl (lv_at hl 0 rfl) ?_
  refine mm_new (ci := 3) (fs := [.null, .int 0]) (C := RX3) (T := TX3) (N := 2) hx hb hts (in_X5_init_X3) tyX3 tyX3_ok hown (hts (.classLink RX5 37 RX3) (List.mem_of_getElem? (i := 20) rfl)) (hts (.instantiable RX3 2) (List.mem_of_getElem? (i := 21) rfl)) (hts (.initialized RX3) (List.mem_of_getElem? (i := 22) rfl)) hK hM hS hA rfl (def_X3) (Nat.le_of_ble_eq_true rfl) (Nat.le_of_ble_eq_true rfl) dX5_init_49 (fun dr H M hM ha hn ho hS => ?_)
  have n_x_dr : x ≠ dr := mm_nn h_x hn
  have h_x := (ho x n_x_dr).trans h_x
  have n_st_dr : st ≠ dr := mm_nn h_st hn
  have h_st := (ho st n_st_dr).trans h_st
  have n_sa_dr : sa ≠ dr := mm_nn h_sa hn
  have h_sa := (ho sa n_sa_dr).trans h_sa
  have n_qu_dr : qu ≠ dr := mm_nn h_qu hn
  have h_qu := (ho qu n_qu_dr).trans h_qu
  have n_lg_dr : lg ≠ dr := mm_nn h_lg hn
  have h_lg := (ho lg n_lg_dr).trans h_lg
  have h_dr : _ = some (Sum.inr (3, [.null, .int 0]) : va_E) := ha
  refine W.widen (k := 137) (n := 5435) (by omega) (by omega) ?_
  have gn_dr : ∀ j, j < 64 → g j ≠ dr ∧ h j ≠ dr := fun j hj => ⟨mm_nn (hI j hj).2.1 hn, mm_nn (hI j hj).2.2.1 hn⟩
  have hI := st_keep hI (fun j hj => ⟨ho _ (gn_dr j hj).1, ho _ (gn_dr j hj).2⟩)
  refine lv_dup hx hb dX5_init_52 rfl ?_
  refine mm_callv (mm_runI (As := []) (rest := [.ref dr, .ref x]) ⟨hx, hb, hml, hown, hts⟩ (c_X3_init (mm_hA hA hS) h_dr) (cwI 0 hts gX5_init_X3_init rfl rfl rfl (hts (.initialized RX3) (List.mem_of_getElem? (i := 22) rfl)) (hts (.methodLink RX5 39 yX3_init) (List.mem_of_getElem? (i := 78) rfl)) (hts (.instanceMethod yX3_init) (List.mem_of_getElem? (i := 40) rfl)) rfl (by decide +kernel) ⟨Nat.le_of_ble_eq_true rfl, Nat.le_of_ble_eq_true rfl⟩) hK hM rfl hl.1 rfl (Nat.le_of_ble_eq_true rfl) dX5_init_53 ⟨Nat.le_of_ble_eq_true rfl, Nat.le_of_ble_eq_true rfl⟩) hS (fun _ h => h) (fun M H locs hp hM hS hz _ => ?_)
  refine W.widen (k := 138) (n := 5499) (by omega) (by omega) ?_
  obtain ⟨db, hnb, ha, hdb, ho⟩ := hp
  have n_x_db : x ≠ db := mm_nn h_x hnb
  have h_x := (ho x n_x_dr n_x_db).trans h_x
  have n_st_db : st ≠ db := mm_nn h_st hnb
  have h_st := (ho st n_st_dr n_st_db).trans h_st
  have n_sa_db : sa ≠ db := mm_nn h_sa hnb
  have h_sa := (ho sa n_sa_dr n_sa_db).trans h_sa
  have n_qu_db : qu ≠ db := mm_nn h_qu hnb
  have h_qu := (ho qu n_qu_dr n_qu_db).trans h_qu
  have n_lg_db : lg ≠ db := mm_nn h_lg hnb
  have h_lg := (ho lg n_lg_dr n_lg_db).trans h_lg
  have gn_db : ∀ j, j < 64 → g j ≠ db ∧ h j ≠ db := fun j hj => ⟨mm_nn (hI j hj).2.1 hnb, mm_nn (hI j hj).2.2.1 hnb⟩
  have hI := st_keep hI (fun j hj => ⟨ho _ (gn_dr j hj).1 (gn_db j hj).1, ho _ (gn_dr j hj).2 (gn_db j hj).2⟩)
  have h_dr : _ = some (Sum.inr (3, [.ref db, .int 0]) : va_E) := ha
  have h_db : _ = some (Sum.inl (cI, 64, .inl (fun _ => 0)) : va_E) := hdb
  have h_xO := h_x
  refine mm_putF (v := .ref dr) (ci := 5) (C := RX5) (T := TX5) (N := 10) hx hb hts (in_X5_init_X5) tyX5 tyX5_ok nmX5 hown hK hM hS h_x rfl 4 (by decide) (hts (.fieldLink RX5 40 "GroupLog" "draft" "LGroupLog$Sector;") (List.mem_of_getElem? (i := 23) rfl)) rfl hin rfl rfl rfl (Nat.le_of_ble_eq_true rfl) dX5_init_56 (fun H locs M hM ha ho hS => ?_)
  have h_st := (ho st (Ne.symm n_x_st)).trans h_st
  have h_sa := (ho sa (mm_ne h_sa h_x mm_ao)).trans h_sa
  have h_qu := (ho qu (Ne.symm n_x_qu)).trans h_qu
  have h_lg := (ho lg (Ne.symm n_x_lg)).trans h_lg
  have h_dr := (ho dr (Ne.symm n_x_dr)).trans h_dr
  have h_db := (ho db (Ne.symm n_x_db)).trans h_db
  have h_x : _ = some (Sum.inr (5, [.ref st, .ref qu, .ref lg, .ref rd, .ref dr, .null, .int 0, .int 0, .int 0, .int 0]) : va_E) := ha
  have hI := st_keep hI (fun j hj => ⟨ho _ (mm_ne (hI j hj).2.1 h_xO (mm_oo (by decide))), ho _ (mm_ne (hI j hj).2.2.1 h_xO mm_ao)⟩)
  refine lv_aload_n hx hb dX5_init_59 rfl (lv_at hl 0 rfl) ?_
  refine lv_sipush (v := 200) hx hb dX5_init_60 (by decide) ?_
  refine mm_newa (atype := .int) (ty := .int) (N' := 200) hx hb (hts (.arrayClass .int) (List.mem_of_getElem? (i := 24) rfl)) rfl hK hM hS hA 0 rfl (fun _ h => by cases h) (mm_z_int 200) (by decide +kernel) (by decide +kernel) (by decide +kernel) (Nat.le_of_ble_eq_true rfl) (Nat.le_of_ble_eq_true rfl) dX5_init_63 (fun tp H M hM ha hn ho hS => ?_)
  have n_x_tp : x ≠ tp := mm_nn h_x hn
  have h_x := (ho x n_x_tp).trans h_x
  have n_st_tp : st ≠ tp := mm_nn h_st hn
  have h_st := (ho st n_st_tp).trans h_st
  have n_sa_tp : sa ≠ tp := mm_nn h_sa hn
  have h_sa := (ho sa n_sa_tp).trans h_sa
  have n_qu_tp : qu ≠ tp := mm_nn h_qu hn
  have h_qu := (ho qu n_qu_tp).trans h_qu
  have n_lg_tp : lg ≠ tp := mm_nn h_lg hn
  have h_lg := (ho lg n_lg_tp).trans h_lg
  have n_dr_tp : dr ≠ tp := mm_nn h_dr hn
  have h_dr := (ho dr n_dr_tp).trans h_dr
  have n_db_tp : db ≠ tp := mm_nn h_db hn
  have h_db := (ho db n_db_tp).trans h_db
  have h_tp : _ = some (Sum.inl (cI, 200, .inl (fun _ => 0)) : va_E) := ha
  refine W.widen (k := 139) (n := 5699) (by omega) (by omega) ?_
  have gn_tp : ∀ j, j < 64 → g j ≠ tp ∧ h j ≠ tp := fun j hj => ⟨mm_nn (hI j hj).2.1 hn, mm_nn (hI j hj).2.2.1 hn⟩
  have hI := st_keep hI (fun j hj => ⟨ho _ (gn_tp j hj).1, ho _ (gn_tp j hj).2⟩)
  have h_xO := h_x
  refine mm_putF (v := .ref tp) (ci := 5) (C := RX5) (T := TX5) (N := 10) hx hb hts (in_X5_init_X5) tyX5 tyX5_ok nmX5 hown hK hM hS h_x rfl 5 (by decide) (hts (.fieldLink RX5 44 "GroupLog" "tape" "[I") (List.mem_of_getElem? (i := 25) rfl)) rfl hin rfl rfl rfl (Nat.le_of_ble_eq_true rfl) dX5_init_65 (fun H locs M hM ha ho hS => ?_)
  have h_st := (ho st (Ne.symm n_x_st)).trans h_st
  have h_sa := (ho sa (mm_ne h_sa h_x mm_ao)).trans h_sa
  have h_qu := (ho qu (Ne.symm n_x_qu)).trans h_qu
  have h_lg := (ho lg (Ne.symm n_x_lg)).trans h_lg
  have h_dr := (ho dr (Ne.symm n_x_dr)).trans h_dr
  have h_db := (ho db (Ne.symm n_x_db)).trans h_db
  have h_tp := (ho tp (Ne.symm n_x_tp)).trans h_tp
  have h_x : _ = some (Sum.inr (5, [.ref st, .ref qu, .ref lg, .ref rd, .ref dr, .ref tp, .int 0, .int 0, .int 0, .int 0]) : va_E) := ha
  have hI := st_keep hI (fun j hj => ⟨ho _ (mm_ne (hI j hj).2.1 h_xO (mm_oo (by decide))), ho _ (mm_ne (hI j hj).2.2.1 h_xO mm_ao)⟩)
  refine lv_aload_n hx hb dX5_init_68 rfl (lv_at hl 0 rfl) ?_
  refine lv_iconst (v := 0) hx hb dX5_init_69 (by decide) ?_
  have h_xO := h_x
  refine mm_put (v := .int 0) (ci := 5) (C := RX5) (T := TX5) (N := 10) hx hb hts (in_X5_init_X5) tyX5 tyX5_ok nmX5 hown hK hM hS h_x rfl 6 (by decide) (hts (.fieldLink RX5 48 "GroupLog" "tapeBytes" "I") (List.mem_of_getElem? (i := 26) rfl)) rfl rfl rfl (Nat.le_of_ble_eq_true rfl) dX5_init_70 (fun H locs M hM ha ho hS => ?_)
  have h_st := (ho st (Ne.symm n_x_st)).trans h_st
  have h_sa := (ho sa (mm_ne h_sa h_x mm_ao)).trans h_sa
  have h_qu := (ho qu (Ne.symm n_x_qu)).trans h_qu
  have h_lg := (ho lg (Ne.symm n_x_lg)).trans h_lg
  have h_dr := (ho dr (Ne.symm n_x_dr)).trans h_dr
  have h_db := (ho db (Ne.symm n_x_db)).trans h_db
  have h_tp := (ho tp (Ne.symm n_x_tp)).trans h_tp
  have h_x : _ = some (Sum.inr (5, [.ref st, .ref qu, .ref lg, .ref rd, .ref dr, .ref tp, .int 0, .int 0, .int 0, .int 0]) : va_E) := ha
  have hI := st_keep hI (fun j hj => ⟨ho _ (mm_ne (hI j hj).2.1 h_xO (mm_oo (by decide))), ho _ (mm_ne (hI j hj).2.2.1 h_xO mm_ao)⟩)
  refine lv_aload_n hx hb dX5_init_73 rfl (lv_at hl 0 rfl) ?_
  refine lv_bipush (v := 10) hx hb dX5_init_74 (by decide) ?_
  have h_xO := h_x
  refine mm_put (v := .int 10) (ci := 5) (C := RX5) (T := TX5) (N := 10) hx hb hts (in_X5_init_X5) tyX5 tyX5_ok nmX5 hown hK hM hS h_x rfl 7 (by decide) (hts (.fieldLink RX5 52 "GroupLog" "delayTicks" "I") (List.mem_of_getElem? (i := 27) rfl)) rfl rfl rfl (Nat.le_of_ble_eq_true rfl) dX5_init_76 (fun H locs M hM ha ho hS => ?_)
  have h_st := (ho st (Ne.symm n_x_st)).trans h_st
  have h_sa := (ho sa (mm_ne h_sa h_x mm_ao)).trans h_sa
  have h_qu := (ho qu (Ne.symm n_x_qu)).trans h_qu
  have h_lg := (ho lg (Ne.symm n_x_lg)).trans h_lg
  have h_dr := (ho dr (Ne.symm n_x_dr)).trans h_dr
  have h_db := (ho db (Ne.symm n_x_db)).trans h_db
  have h_tp := (ho tp (Ne.symm n_x_tp)).trans h_tp
  have h_x : _ = some (Sum.inr (5, [.ref st, .ref qu, .ref lg, .ref rd, .ref dr, .ref tp, .int 0, .int 10, .int 0, .int 0]) : va_E) := ha
  have hI := st_keep hI (fun j hj => ⟨ho _ (mm_ne (hI j hj).2.1 h_xO (mm_oo (by decide))), ho _ (mm_ne (hI j hj).2.2.1 h_xO mm_ao)⟩)
  refine lv_aload_n hx hb dX5_init_79 rfl (lv_at hl 0 rfl) ?_
  refine lv_iconst (v := 0) hx hb dX5_init_80 (by decide) ?_
  have h_xO := h_x
  refine mm_put (v := .int 0) (ci := 5) (C := RX5) (T := TX5) (N := 10) hx hb hts (in_X5_init_X5) tyX5 tyX5_ok nmX5 hown hK hM hS h_x rfl 8 (by decide) (hts (.fieldLink RX5 55 "GroupLog" "flushes" "I") (List.mem_of_getElem? (i := 28) rfl)) rfl rfl rfl (Nat.le_of_ble_eq_true rfl) dX5_init_81 (fun H locs M hM ha ho hS => ?_)
  have h_st := (ho st (Ne.symm n_x_st)).trans h_st
  have h_sa := (ho sa (mm_ne h_sa h_x mm_ao)).trans h_sa
  have h_qu := (ho qu (Ne.symm n_x_qu)).trans h_qu
  have h_lg := (ho lg (Ne.symm n_x_lg)).trans h_lg
  have h_dr := (ho dr (Ne.symm n_x_dr)).trans h_dr
  have h_db := (ho db (Ne.symm n_x_db)).trans h_db
  have h_tp := (ho tp (Ne.symm n_x_tp)).trans h_tp
  have h_x : _ = some (Sum.inr (5, [.ref st, .ref qu, .ref lg, .ref rd, .ref dr, .ref tp, .int 0, .int 10, .int 0, .int 0]) : va_E) := ha
  have hI := st_keep hI (fun j hj => ⟨ho _ (mm_ne (hI j hj).2.1 h_xO (mm_oo (by decide))), ho _ (mm_ne (hI j hj).2.2.1 h_xO mm_ao)⟩)
  refine lv_aload_n hx hb dX5_init_84 rfl (lv_at hl 0 rfl) ?_
  refine lv_iconst (v := 1) hx hb dX5_init_85 (by decide) ?_
  have h_xO := h_x
  refine mm_put (v := .int 1) (ci := 5) (C := RX5) (T := TX5) (N := 10) hx hb hts (in_X5_init_X5) tyX5 tyX5_ok nmX5 hown hK hM hS h_x rfl 9 (by decide) (hts (.fieldLink RX5 58 "GroupLog" "on" "Z") (List.mem_of_getElem? (i := 29) rfl)) rfl rfl rfl (Nat.le_of_ble_eq_true rfl) dX5_init_86 (fun H locs M hM ha ho hS => ?_)
  have h_st := (ho st (Ne.symm n_x_st)).trans h_st
  have h_sa := (ho sa (mm_ne h_sa h_x mm_ao)).trans h_sa
  have h_qu := (ho qu (Ne.symm n_x_qu)).trans h_qu
  have h_lg := (ho lg (Ne.symm n_x_lg)).trans h_lg
  have h_dr := (ho dr (Ne.symm n_x_dr)).trans h_dr
  have h_db := (ho db (Ne.symm n_x_db)).trans h_db
  have h_tp := (ho tp (Ne.symm n_x_tp)).trans h_tp
  have h_x : _ = some (Sum.inr (5, [.ref st, .ref qu, .ref lg, .ref rd, .ref dr, .ref tp, .int 0, .int 10, .int 0, .int 1]) : va_E) := ha
  have hI := st_keep hI (fun j hj => ⟨ho _ (mm_ne (hI j hj).2.1 h_xO (mm_oo (by decide))), ho _ (mm_ne (hI j hj).2.2.1 h_xO mm_ao)⟩)
  have h_g0 := (hI 0 (by decide)).2.1
  have h_h0 := (hI 0 (by decide)).2.2.1
  refine lv_aload_n hx hb dX5_init_89 rfl (lv_at hl 0 rfl) ?_
  refine mm_get (v := .ref st) (ci := 5) (C := RX5) (T := TX5) (N := 10) hx hb hts (in_X5_init_X5) hown hK hM h_x rfl 0 (by decide) (hts (.fieldLink RX5 12 "GroupLog" "store" "LGroupLog$Store;") (List.mem_of_getElem? (i := 7) rfl)) rfl dX5_init_90 ?_
  refine lv_iconst (v := 0) hx hb dX5_init_93 (by decide) ?_
  refine mm_callr (mm_runV (As := [.int 0]) (rest := []) ⟨hx, hb, hml, hown, hts⟩ (c_X4_sector 0 rfl (by decide) (hI 0 (by decide)).1 h_st h_sa) (cwV 1 hts gX5_init_X4_sector rfl rfl rfl (by decide +kernel) ⟨Nat.le_of_ble_eq_true rfl, Nat.le_of_ble_eq_true rfl⟩) hK hM h_st rfl rfl hl.1 rfl (Nat.le_of_ble_eq_true rfl) dX5_init_94 ⟨Nat.le_of_ble_eq_true rfl, Nat.le_of_ble_eq_true rfl⟩) hS (fun _ h => h) (fun r1 M H locs hp hM hS hz _ => ?_)
  obtain ⟨rfl, hme⟩ := hp
  rw [hme] at hM
  refine lv_iconst (v := 1) hx hb dX5_init_97 (by decide) ?_
  refine lv_iconst (v := 1) hx hb dX5_init_98 (by decide) ?_
  refine lv_iconst (v := 1) hx hb dX5_init_99 (by decide) ?_
  refine lv_iconst (v := 2) hx hb dX5_init_100 (by decide) ?_
  refine mm_callv (mm_runV (As := [.int 1, .int 1, .int 1, .int 2]) (rest := []) ⟨hx, hb, hml, hown, hts⟩ (c_X3_makeHead h_g0 h_h0) (cwV 4 hts gX5_init_X3_makeHead rfl rfl rfl (by decide +kernel) ⟨Nat.le_of_ble_eq_true rfl, Nat.le_of_ble_eq_true rfl⟩) hK hM h_g0 rfl rfl hl.1 rfl (Nat.le_of_ble_eq_true rfl) dX5_init_101 ⟨Nat.le_of_ble_eq_true rfl, Nat.le_of_ble_eq_true rfl⟩) hS (fun _ h => h) (fun M H locs hp hM hS hz _ => ?_)
  obtain ⟨ha, ho⟩ := hp
  have hI := st_head hI ha ho
  have h_h0 : _ = some (Sum.inl (cI, 64, .inl (fun _ => 0)) : va_E) := h_h0
  have h_x := (ho x (mm_ne h_x h_h0 mm_oa)).trans h_x
  have h_st := (ho st (mm_ne h_st h_h0 mm_oa)).trans h_st
  have h_sa := (ho sa (mm_ne h_sa h_h0 mm_qi)).trans h_sa
  have h_qu := (ho qu (mm_ne h_qu h_h0 mm_oa)).trans h_qu
  have h_lg := (ho lg (mm_ne h_lg h_h0 mm_oa)).trans h_lg
  have h_dr := (ho dr (mm_ne h_dr h_h0 mm_oa)).trans h_dr
  have h_db := (ho db (Ne.symm (gn_db 0 (by decide)).2)).trans h_db
  have h_tp := (ho tp (mm_ne h_tp h_h0 (mm_an (by decide)))).trans h_tp
  have h_h0 : _ = some (Sum.inl (cI, 64, .inl (hd_f 1 1 1 2)) : va_E) := ha
  refine lv_aload_n hx hb dX5_init_104 rfl (lv_at hl 0 rfl) ?_
  refine mm_get (v := .ref lg) (ci := 5) (C := RX5) (T := TX5) (N := 10) hx hb hts (in_X5_init_X5) hown hK hM h_x rfl 2 (by decide) (hts (.fieldLink RX5 26 "GroupLog" "log" "LGroupLog$Log;") (List.mem_of_getElem? (i := 15) rfl)) rfl dX5_init_105 ?_
  refine lv_iconst (v := 2) hx hb dX5_init_108 (by decide) ?_
  refine lv_iconst (v := 1) hx hb dX5_init_109 (by decide) ?_
  refine lv_iconst (v := 1) hx hb dX5_init_110 (by decide) ?_
  have h_lgO := h_lg
  refine mm_callv (mm_runV (As := [.int 2, .int 1, .int 1]) (rest := []) ⟨hx, hb, hml, hown, hts⟩ (c_X0_openAt h_lg) (cwV 3 hts gX5_init_X0_openAt rfl rfl rfl (by decide +kernel) ⟨Nat.le_of_ble_eq_true rfl, Nat.le_of_ble_eq_true rfl⟩) hK hM h_lg rfl rfl hl.1 rfl (Nat.le_of_ble_eq_true rfl) dX5_init_111 ⟨Nat.le_of_ble_eq_true rfl, Nat.le_of_ble_eq_true rfl⟩) hS (fun _ h => h) (fun M H locs hp hM hS hz _ => ?_)
  obtain ⟨ha, ho⟩ := hp
  have h_x := (ho x n_x_lg).trans h_x
  have h_st := (ho st n_st_lg).trans h_st
  have h_sa := (ho sa n_sa_lg).trans h_sa
  have h_qu := (ho qu n_qu_lg).trans h_qu
  have h_dr := (ho dr (Ne.symm n_lg_dr)).trans h_dr
  have h_db := (ho db (Ne.symm n_lg_db)).trans h_db
  have h_tp := (ho tp (Ne.symm n_lg_tp)).trans h_tp
  have h_lg : _ = some (Sum.inr (0, [.ref lb, .int 1, .int 1, .int 0, .int 2, .int 0, .int 2, .int 1]) : va_E) := ha
  have hI := st_keep hI (fun j hj => ⟨ho _ (mm_ne (hI j hj).2.1 h_lgO (mm_oo (by decide))), ho _ (mm_ne (hI j hj).2.2.1 h_lgO mm_ao)⟩)
  exact mm_vret hx hb hr hlk hM hS (⟨st, qu, lg, rd, dr, tp, sa, qb, lb, db, fa, g, h, h_x, h_st, h_sa, h_qu, h_lg, h_dr, h_db, h_tp, hI, (gn_db 1 (by decide)).2⟩) dX5_init_114
end
section
theorem dX5_append_44 : decode cX5_append 44 = .ok (.iconst (-1), 1) := by decide +kernel
theorem dX5_append_45 : decode cX5_append 45 = .ok (.ireturn, 1) := by decide +kernel

set_option maxHeartbeats 4000000 in
set_option maxRecDepth 100000 in
theorem c_X5_isTicks {l : Launch} {D : va_G} {A : Nat → Prop} {cI cS cB cZ : ClassId} {M : Nat → Option va_E} {sz : Nat} {k : Int32}  : Met l yX5_isTicks wsX5_isTicks ({ frames := 0, cells := 0, slots := 0, locals := 0 }) (mm_Pc D A (mm_T cI cS cB cZ) M sz [.int k]) (mm_Qi D A (fun r M1 => r = tk_f k ∧ M1 = M)) 0 0 A := by
  refine mm_met (cc := cX5_isTicks) (maxL := 1) (ret := (some .boolean)) (by decide) rfl (Nat.le_of_ble_eq_true rfl) ?_
  intro p e s m args below meth c hx hb hr hts hown hlk hin hml hsz hK hM hS ls hl
  subst hsz
  have hl : lv_has ls 1 [(0, .int k)] := hl
  refine lv_iload_n hx hb dX5_isTicks_0 rfl (lv_at hl 0 rfl) ?_
  refine lv_iconst (v := 1) hx hb dX5_isTicks_1 (by decide) ?_
  refine lv_icmp_lt (tgt := 16) hx hb dX5_isTicks_2 (by decide) (fun c_1 => ?_) (fun c_1 => ?_)
  · skip
    refine lv_iconst (v := 0) hx hb dX5_isTicks_16 (by decide) ?_
    exact mm_zret hx hb hr hlk (rfl) hM hS (⟨by unfold tk_f; rw [if_pos c_1], rfl⟩) dX5_isTicks_17
  · skip
    refine lv_iload_n hx hb dX5_isTicks_5 rfl (lv_at hl 0 rfl) ?_
    refine lv_sipush (v := 1000) hx hb dX5_isTicks_6 (by decide) ?_
    refine lv_icmp_gt (tgt := 16) hx hb dX5_isTicks_9 (by decide) (fun c_2 => ?_) (fun c_2 => ?_)
    · skip
      refine lv_iconst (v := 0) hx hb dX5_isTicks_16 (by decide) ?_
      exact mm_zret hx hb hr hlk (rfl) hM hS (⟨by unfold tk_f; rw [if_neg c_1, if_pos c_2], rfl⟩) dX5_isTicks_17
    · skip
      refine lv_iconst (v := 1) hx hb dX5_isTicks_12 (by decide) ?_
      refine lv_goto (tgt := 17) hx hb dX5_isTicks_13 (by decide) ?_
      exact mm_zret hx hb hr hlk (rfl) hM hS (⟨by unfold tk_f; rw [if_neg c_1, if_neg c_2], rfl⟩) dX5_isTicks_17

set_option maxHeartbeats 4000000 in
set_option maxRecDepth 100000 in
theorem c_X5_isByte {l : Launch} {D : va_G} {A : Nat → Prop} {cI cS cB cZ : ClassId} {M : Nat → Option va_E} {sz : Nat} {k i : Int32}  : Met l yX5_isByte wsX5_isByte ({ frames := 0, cells := 0, slots := 0, locals := 0 }) (mm_Pc D A (mm_T cI cS cB cZ) M sz [.int k, .int i]) (mm_Qi D A (fun r M1 => r = ib_f k i ∧ M1 = M)) 0 0 A := by
  refine mm_met (cc := cX5_isByte) (maxL := 2) (ret := (some .boolean)) (by decide) rfl (Nat.le_of_ble_eq_true rfl) ?_
  intro p e s m args below meth c hx hb hr hts hown hlk hin hml hsz hK hM hS ls hl
  subst hsz
  have hl : lv_has ls 2 [(0, .int k), (1, .int i)] := hl
  refine lv_iload_n hx hb dX5_isByte_0 rfl (lv_at hl 0 rfl) ?_
  refine lv_if_lt (tgt := 24) hx hb dX5_isByte_1 (by decide) (fun c_1 => ?_) (fun c_1 => ?_)
  · skip
    refine lv_iconst (v := 0) hx hb dX5_isByte_24 (by decide) ?_
    exact mm_zret hx hb hr hlk (rfl) hM hS (⟨by unfold ib_f; rw [if_pos c_1], rfl⟩) dX5_isByte_25
  · skip
    refine lv_iload_n hx hb dX5_isByte_4 rfl (lv_at hl 0 rfl) ?_
    refine lv_bipush (v := 64) hx hb dX5_isByte_5 (by decide) ?_
    refine lv_icmp_ge (tgt := 24) hx hb dX5_isByte_7 (by decide) (fun c_2 => ?_) (fun c_2 => ?_)
    · skip
      refine lv_iconst (v := 0) hx hb dX5_isByte_24 (by decide) ?_
      exact mm_zret hx hb hr hlk (rfl) hM hS (⟨by unfold ib_f; rw [if_neg c_1, if_pos c_2], rfl⟩) dX5_isByte_25
    · skip
      refine lv_iload_n hx hb dX5_isByte_10 rfl (lv_at hl 1 rfl) ?_
      refine lv_if_lt (tgt := 24) hx hb dX5_isByte_11 (by decide) (fun c_3 => ?_) (fun c_3 => ?_)
      · skip
        refine lv_iconst (v := 0) hx hb dX5_isByte_24 (by decide) ?_
        exact mm_zret hx hb hr hlk (rfl) hM hS (⟨by unfold ib_f; rw [if_neg c_1, if_neg c_2, if_pos c_3], rfl⟩) dX5_isByte_25
      · skip
        refine lv_iload_n hx hb dX5_isByte_14 rfl (lv_at hl 1 rfl) ?_
        refine lv_bipush (v := 64) hx hb dX5_isByte_15 (by decide) ?_
        refine lv_icmp_ge (tgt := 24) hx hb dX5_isByte_17 (by decide) (fun c_4 => ?_) (fun c_4 => ?_)
        · skip
          refine lv_iconst (v := 0) hx hb dX5_isByte_24 (by decide) ?_
          exact mm_zret hx hb hr hlk (rfl) hM hS (⟨by unfold ib_f; rw [if_neg c_1, if_neg c_2, if_neg c_3, if_pos c_4], rfl⟩) dX5_isByte_25
        · skip
          refine lv_iconst (v := 1) hx hb dX5_isByte_20 (by decide) ?_
          refine lv_goto (tgt := 25) hx hb dX5_isByte_21 (by decide) ?_
          exact mm_zret hx hb hr hlk (rfl) hM hS (⟨by unfold ib_f; rw [if_neg c_1, if_neg c_2, if_neg c_3, if_neg c_4], rfl⟩) dX5_isByte_25

theorem in_X5_delay_X5 : ∀ w ∈ u_ws RX5 TX5 10, w ∈ wsX5_delay := fun w h => List.mem_cons_of_mem _ (List.mem_append_right _ h)
set_option maxHeartbeats 4000000 in
set_option maxRecDepth 100000 in
theorem c_X5_delay {l : Launch} {D : va_G} {A : Nat → Prop} {cI cS cB cZ : ClassId} {M : Nat → Option va_E} {sz : Nat} {x st qu lg rd dr tp : Nat} {k : Int32} (h_x : M x = some (Sum.inr (5, [.ref st, .ref qu, .ref lg, .ref rd, .ref dr, .ref tp, .int 0, .int 10, .int 0, .int 1]) : va_E)) : Met l yX5_delay wsX5_delay ({ frames := 1, cells := 0, slots := 0, locals := 20 }) (mm_Pc D A (mm_T cI cS cB cZ) M sz [.ref x, .int k]) (mm_Qi D A (fun r M1 => r = tk_f k)) 0 0 A := by
  refine mm_met (cc := cX5_delay) (maxL := 2) (ret := (some .boolean)) (by decide) rfl (Nat.le_of_ble_eq_true rfl) ?_
  intro p e s m args below meth c hx hb hr hts hown hlk hin hml hsz hK hM hS ls hl
  subst hsz
  have hl : lv_has ls 2 [(0, .ref x), (1, .int k)] := hl
  refine lv_aload_n hx hb dX5_delay_0 rfl (lv_at hl 0 rfl) ?_
  refine mm_get (v := .int 1) (ci := 5) (C := RX5) (T := TX5) (N := 10) hx hb hts (in_X5_delay_X5) hown hK hM h_x rfl 9 (by decide) (hts (.fieldLink RX5 58 "GroupLog" "on" "Z") (List.mem_of_getElem? (i := 1) rfl)) rfl dX5_delay_1 ?_
  refine lv_if_eq (tgt := 14) hx hb dX5_delay_4 (by decide) (fun c_1 => ?_) (fun c_1 => ?_)
  · exact absurd c_1 (by decide)
  refine lv_iload_n hx hb dX5_delay_7 rfl (lv_at hl 1 rfl) ?_
  refine mm_calli (mm_runS (As := [.int k]) (rest := []) ⟨hx, hb, hml, hown, hts⟩ (c_X5_isTicks ) (va_cwS 1 hts gX5_delay_X5_isTicks rfl rfl rfl (by decide +kernel) ⟨Nat.le_of_ble_eq_true rfl, Nat.le_of_ble_eq_true rfl⟩) hK hM rfl hl.1 rfl (Nat.le_of_ble_eq_true rfl) dX5_delay_8 ⟨Nat.le_of_ble_eq_true rfl, Nat.le_of_ble_eq_true rfl⟩) hS (fun _ h => h) (fun r2 M H locs hp hM hS hz _ => ?_)
  obtain ⟨rfl, hme⟩ := hp
  rw [hme] at hM
  refine lv_if_ne (tgt := 16) hx hb dX5_delay_11 (by decide) (fun c_3 => ?_) (fun c_3 => ?_)
  · skip
    refine lv_aload_n hx hb dX5_delay_16 rfl (lv_at hl 0 rfl) ?_
    refine lv_iload_n hx hb dX5_delay_17 rfl (lv_at hl 1 rfl) ?_
    refine mm_put (v := .int k) (ci := 5) (C := RX5) (T := TX5) (N := 10) hx hb hts (in_X5_delay_X5) tyX5 tyX5_ok nmX5 hown hK hM hS h_x rfl 7 (by decide) (hts (.fieldLink RX5 52 "GroupLog" "delayTicks" "I") (List.mem_of_getElem? (i := 2) rfl)) rfl rfl rfl (Nat.le_of_ble_eq_true rfl) dX5_delay_18 (fun H locs M hM ha ho hS => ?_)
    have h_x : _ = some (Sum.inr (5, [.ref st, .ref qu, .ref lg, .ref rd, .ref dr, .ref tp, .int 0, .int k, .int 0, .int 1]) : va_E) := ha
    refine lv_iconst (v := 1) hx hb dX5_delay_21 (by decide) ?_
    exact mm_zret hx hb hr hlk (rfl) hM hS (tk_1 c_3) dX5_delay_22
  · skip
    refine lv_iconst (v := 0) hx hb dX5_delay_14 (by decide) ?_
    exact mm_zret hx hb hr hlk (rfl) hM hS (c_3.symm) dX5_delay_15

theorem in_X5_feed_X5 : ∀ w ∈ u_ws RX5 TX5 10, w ∈ wsX5_feed := fun w h => List.mem_cons_of_mem _ (List.mem_append_right _ h)
set_option maxHeartbeats 4000000 in
set_option maxRecDepth 100000 in
theorem c_X5_feed {l : Launch} {D : va_G} {A : Nat → Prop} {cI cS cB cZ : ClassId} {M : Nat → Option va_E} {sz : Nat} {x st qu lg rd dr tp : Nat} {k : Int32} (h_x : M x = some (Sum.inr (5, [.ref st, .ref qu, .ref lg, .ref rd, .ref dr, .ref tp, .int 0, .int 10, .int 0, .int 1]) : va_E)) (h_tp : M tp = some (Sum.inl (cI, 200, .inl (fun _ => 0)) : va_E)) : Met l yX5_feed wsX5_feed ({ frames := 0, cells := 0, slots := 0, locals := 0 }) (mm_Pc D A (mm_T cI cS cB cZ) M sz [.ref x, .int k]) (mm_Qi D A (fun r M1 => r = fd_f k)) 0 0 A := by
  refine mm_met (cc := cX5_feed) (maxL := 2) (ret := (some .boolean)) (by decide) rfl (Nat.le_of_ble_eq_true rfl) ?_
  intro p e s m args below meth c hx hb hr hts hown hlk hin hml hsz hK hM hS ls hl
  subst hsz
  have hl : lv_has ls 2 [(0, .ref x), (1, .int k)] := hl
  refine lv_iload_n hx hb dX5_feed_0 rfl (lv_at hl 1 rfl) ?_
  refine lv_if_lt (tgt := 30) hx hb dX5_feed_1 (by decide) (fun c_1 => ?_) (fun c_1 => ?_)
  · skip
    refine lv_iconst (v := 0) hx hb dX5_feed_30 (by decide) ?_
    exact mm_zret hx hb hr hlk (rfl) hM hS (by unfold fd_f; rw [if_pos c_1]) dX5_feed_31
  · skip
    refine lv_iload_n hx hb dX5_feed_4 rfl (lv_at hl 1 rfl) ?_
    refine lv_sipush (v := 255) hx hb dX5_feed_5 (by decide) ?_
    refine lv_icmp_gt (tgt := 30) hx hb dX5_feed_8 (by decide) (fun c_2 => ?_) (fun c_2 => ?_)
    · skip
      refine lv_iconst (v := 0) hx hb dX5_feed_30 (by decide) ?_
      exact mm_zret hx hb hr hlk (rfl) hM hS (by unfold fd_f; rw [if_neg c_1, if_pos c_2]) dX5_feed_31
    · skip
      refine lv_aload_n hx hb dX5_feed_11 rfl (lv_at hl 0 rfl) ?_
      refine mm_get (v := .int 0) (ci := 5) (C := RX5) (T := TX5) (N := 10) hx hb hts (in_X5_feed_X5) hown hK hM h_x rfl 6 (by decide) (hts (.fieldLink RX5 48 "GroupLog" "tapeBytes" "I") (List.mem_of_getElem? (i := 1) rfl)) rfl dX5_feed_12 ?_
      refine lv_if_lt (tgt := 30) hx hb dX5_feed_15 (by decide) (fun c_3 => ?_) (fun c_3 => ?_)
      · exact absurd c_3 (by decide)
      refine lv_aload_n hx hb dX5_feed_18 rfl (lv_at hl 0 rfl) ?_
      refine mm_get (v := .int 0) (ci := 5) (C := RX5) (T := TX5) (N := 10) hx hb hts (in_X5_feed_X5) hown hK hM h_x rfl 6 (by decide) (hts (.fieldLink RX5 48 "GroupLog" "tapeBytes" "I") (List.mem_of_getElem? (i := 1) rfl)) rfl dX5_feed_19 ?_
      refine lv_aload_n hx hb dX5_feed_22 rfl (lv_at hl 0 rfl) ?_
      refine mm_get (v := .ref tp) (ci := 5) (C := RX5) (T := TX5) (N := 10) hx hb hts (in_X5_feed_X5) hown hK hM h_x rfl 5 (by decide) (hts (.fieldLink RX5 44 "GroupLog" "tape" "[I") (List.mem_of_getElem? (i := 2) rfl)) rfl dX5_feed_23 ?_
      refine mm_alen (v := 200) hx hb hK hM 0 h_tp rfl rfl dX5_feed_26 ?_
      refine lv_icmp_lt (tgt := 32) hx hb dX5_feed_27 (by decide) (fun c_4 => ?_) (fun c_4 => ?_)
      rotate_left
      · exact absurd c_4 (by decide)
      refine lv_aload_n hx hb dX5_feed_32 rfl (lv_at hl 0 rfl) ?_
      refine mm_get (v := .ref tp) (ci := 5) (C := RX5) (T := TX5) (N := 10) hx hb hts (in_X5_feed_X5) hown hK hM h_x rfl 5 (by decide) (hts (.fieldLink RX5 44 "GroupLog" "tape" "[I") (List.mem_of_getElem? (i := 2) rfl)) rfl dX5_feed_33 ?_
      refine lv_aload_n hx hb dX5_feed_36 rfl (lv_at hl 0 rfl) ?_
      refine mm_get (v := .int 0) (ci := 5) (C := RX5) (T := TX5) (N := 10) hx hb hts (in_X5_feed_X5) hown hK hM h_x rfl 6 (by decide) (hts (.fieldLink RX5 48 "GroupLog" "tapeBytes" "I") (List.mem_of_getElem? (i := 1) rfl)) rfl dX5_feed_37 ?_
      refine lv_iload_n hx hb dX5_feed_40 rfl (lv_at hl 1 rfl) ?_
      refine mm_iast hx hb hK hM hS 0 h_tp rfl (j := 0) (rfl) (by decide) (by decide) dX5_feed_41 (fun H locs M hM ha ho hS => ?_)
      have h_x := (ho x (mm_ne h_x h_tp mm_oa)).trans h_x
      have h_tp : _ = some (Sum.inl (cI, 200, .inl (upd (fun _ => 0) (0) (k))) : va_E) := ha
      refine lv_aload_n hx hb dX5_feed_42 rfl (lv_at hl 0 rfl) ?_
      refine lv_dup hx hb dX5_feed_43 rfl ?_
      refine mm_get (v := .int 0) (ci := 5) (C := RX5) (T := TX5) (N := 10) hx hb hts (in_X5_feed_X5) hown hK hM h_x rfl 6 (by decide) (hts (.fieldLink RX5 48 "GroupLog" "tapeBytes" "I") (List.mem_of_getElem? (i := 1) rfl)) rfl dX5_feed_44 ?_
      refine lv_iconst (v := 1) hx hb dX5_feed_47 (by decide) ?_
      refine lv_iadd hx hb dX5_feed_48 ?_
      refine lv_topi (fun z5 ez5 => ?_)
      have ez5 : z5 = 1 := ez5.trans (by decide)
      subst ez5
      refine mm_put (v := .int 1) (ci := 5) (C := RX5) (T := TX5) (N := 10) hx hb hts (in_X5_feed_X5) tyX5 tyX5_ok nmX5 hown hK hM hS h_x rfl 6 (by decide) (hts (.fieldLink RX5 48 "GroupLog" "tapeBytes" "I") (List.mem_of_getElem? (i := 1) rfl)) rfl rfl rfl (Nat.le_of_ble_eq_true rfl) dX5_feed_49 (fun H locs M hM ha ho hS => ?_)
      have h_tp := (ho tp (mm_ne h_tp h_x mm_ao)).trans h_tp
      have h_x : _ = some (Sum.inr (5, [.ref st, .ref qu, .ref lg, .ref rd, .ref dr, .ref tp, .int 1, .int 10, .int 0, .int 1]) : va_E) := ha
      refine lv_iconst (v := 1) hx hb dX5_feed_52 (by decide) ?_
      exact mm_zret hx hb hr hlk (rfl) hM hS (by unfold fd_f; rw [if_neg c_1, if_neg c_2]) dX5_feed_53

theorem in_X5_append_X5 : ∀ w ∈ u_ws RX5 TX5 10, w ∈ wsX5_append := fun w h => List.mem_cons_of_mem _ (List.mem_append_left _ (List.mem_append_left _ (List.mem_append_left _ (List.mem_append_left _ (List.mem_append_right _ h)))))
set_option maxHeartbeats 4000000 in
set_option maxRecDepth 100000 in
theorem c_X5_append {l : Launch} {D : va_G} {A : Nat → Prop} {cI cS cB cZ : ClassId} {M : Nat → Option va_E} {sz : Nat} {x st qu lg rd dr tp : Nat} (h_x : M x = some (Sum.inr (5, [.ref st, .ref qu, .ref lg, .ref rd, .ref dr, .ref tp, .int 0, .int 10, .int 0, .int 1]) : va_E)) : Met l yX5_append wsX5_append ({ frames := 0, cells := 0, slots := 0, locals := 0 }) (mm_Pc D A (mm_T cI cS cB cZ) M sz [.ref x]) (mm_Qi D A (fun r M1 => r = (-1))) 0 0 A := by
  refine mm_met (cc := cX5_append) (maxL := 2) (ret := (some .int)) (by decide) rfl (Nat.le_of_ble_eq_true rfl) ?_
  intro p e s m args below meth c hx hb hr hts hown hlk hin hml hsz hK hM hS ls hl
  subst hsz
  have hl : lv_has ls 2 [(0, .ref x)] := hl
  refine lv_aload_n hx hb dX5_append_0 rfl (lv_at hl 0 rfl) ?_
  refine mm_get (v := .int 1) (ci := 5) (C := RX5) (T := TX5) (N := 10) hx hb hts (in_X5_append_X5) hown hK hM h_x rfl 9 (by decide) (hts (.fieldLink RX5 58 "GroupLog" "on" "Z") (List.mem_of_getElem? (i := 1) rfl)) rfl dX5_append_1 ?_
  refine lv_if_ne (tgt := 10) hx hb dX5_append_4 (by decide) (fun c_1 => ?_) (fun c_1 => ?_)
  rotate_left
  · exact absurd c_1 (by decide)
  refine lv_aload_n hx hb dX5_append_10 rfl (lv_at hl 0 rfl) ?_
  refine mm_get (v := .int 0) (ci := 5) (C := RX5) (T := TX5) (N := 10) hx hb hts (in_X5_append_X5) hown hK hM h_x rfl 6 (by decide) (hts (.fieldLink RX5 48 "GroupLog" "tapeBytes" "I") (List.mem_of_getElem? (i := 2) rfl)) rfl dX5_append_11 ?_
  refine lv_if_eq (tgt := 44) hx hb dX5_append_14 (by decide) (fun c_2 => ?_) (fun c_2 => ?_)
  rotate_left
  · exact absurd c_2 (by decide)
  refine lv_iconst (v := (-1)) hx hb dX5_append_44 (by decide) ?_
  exact mm_iret hx hb hr hlk hM hS (rfl) dX5_append_45

theorem in_X5_start_X5 : ∀ w ∈ u_ws RX5 TX5 10, w ∈ wsX5_start := fun w h => List.mem_cons_of_mem _ (List.mem_append_left _ (List.mem_append_left _ (List.mem_append_left _ (List.mem_append_left _ (List.mem_append_left _ (List.mem_append_right _ h))))))
set_option maxHeartbeats 4000000 in
set_option maxRecDepth 100000 in
theorem c_X5_start {l : Launch} {D : va_G} {A : Nat → Prop} {cI cS cB cZ : ClassId} {M : Nat → Option va_E} {sz : Nat} {x st qu lg rd dr tp : Nat} (h_x : M x = some (Sum.inr (5, [.ref st, .ref qu, .ref lg, .ref rd, .ref dr, .ref tp, .int 0, .int 10, .int 0, .int 1]) : va_E)) : Met l yX5_start wsX5_start ({ frames := 0, cells := 0, slots := 0, locals := 0 }) (mm_Pc D A (mm_T cI cS cB cZ) M sz [.ref x]) (mm_Qi D A (fun r M1 => r = (-1))) 0 0 A := by
  refine mm_met (cc := cX5_start) (maxL := 4) (ret := (some .int)) (by decide) rfl (Nat.le_of_ble_eq_true rfl) ?_
  intro p e s m args below meth c hx hb hr hts hown hlk hin hml hsz hK hM hS ls hl
  subst hsz
  have hl : lv_has ls 4 [(0, .ref x)] := hl
  refine lv_aload_n hx hb dX5_start_0 rfl (lv_at hl 0 rfl) ?_
  refine mm_get (v := .int 1) (ci := 5) (C := RX5) (T := TX5) (N := 10) hx hb hts (in_X5_start_X5) hown hK hM h_x rfl 9 (by decide) (hts (.fieldLink RX5 58 "GroupLog" "on" "Z") (List.mem_of_getElem? (i := 1) rfl)) rfl dX5_start_1 ?_
  refine lv_if_eq (tgt := 9) hx hb dX5_start_4 (by decide) (fun c_1 => ?_) (fun c_1 => ?_)
  · exact absurd c_1 (by decide)
  refine lv_iconst (v := (-1)) hx hb dX5_start_7 (by decide) ?_
  exact mm_iret hx hb hr hlk hM hS (rfl) dX5_start_8

theorem in_X5_first_X0 : ∀ w ∈ u_ws RX0 TX0 8, w ∈ wsX5_first := fun w h => List.mem_cons_of_mem _ (List.mem_append_right _ h)
theorem in_X5_first_X5 : ∀ w ∈ u_ws RX5 TX5 10, w ∈ wsX5_first := fun w h => List.mem_cons_of_mem _ (List.mem_append_left _ (List.mem_append_right _ h))
set_option maxHeartbeats 4000000 in
set_option maxRecDepth 100000 in
theorem c_X5_first {l : Launch} {D : va_G} {A : Nat → Prop} {cI cS cB cZ : ClassId} {M : Nat → Option va_E} {sz : Nat} {x st qu lg rd dr tp lb : Nat} (h_x : M x = some (Sum.inr (5, [.ref st, .ref qu, .ref lg, .ref rd, .ref dr, .ref tp, .int 0, .int 10, .int 0, .int 1]) : va_E)) (h_lg : M lg = some (Sum.inr (0, [.ref lb, .int 1, .int 1, .int 0, .int 2, .int 0, .int 2, .int 1]) : va_E)) : Met l yX5_first wsX5_first ({ frames := 0, cells := 0, slots := 0, locals := 0 }) (mm_Pc D A (mm_T cI cS cB cZ) M sz [.ref x]) (mm_Qi D A (fun r M1 => r = 1)) 0 0 A := by
  refine mm_met (cc := cX5_first) (maxL := 1) (ret := (some .int)) (by decide) rfl (Nat.le_of_ble_eq_true rfl) ?_
  intro p e s m args below meth c hx hb hr hts hown hlk hin hml hsz hK hM hS ls hl
  subst hsz
  have hl : lv_has ls 1 [(0, .ref x)] := hl
  refine lv_aload_n hx hb dX5_first_0 rfl (lv_at hl 0 rfl) ?_
  refine mm_get (v := .int 1) (ci := 5) (C := RX5) (T := TX5) (N := 10) hx hb hts (in_X5_first_X5) hown hK hM h_x rfl 9 (by decide) (hts (.fieldLink RX5 58 "GroupLog" "on" "Z") (List.mem_of_getElem? (i := 1) rfl)) rfl dX5_first_1 ?_
  refine lv_if_eq (tgt := 17) hx hb dX5_first_4 (by decide) (fun c_1 => ?_) (fun c_1 => ?_)
  · exact absurd c_1 (by decide)
  refine lv_aload_n hx hb dX5_first_7 rfl (lv_at hl 0 rfl) ?_
  refine mm_get (v := .ref lg) (ci := 5) (C := RX5) (T := TX5) (N := 10) hx hb hts (in_X5_first_X5) hown hK hM h_x rfl 2 (by decide) (hts (.fieldLink RX5 26 "GroupLog" "log" "LGroupLog$Log;") (List.mem_of_getElem? (i := 2) rfl)) rfl dX5_first_8 ?_
  refine mm_getN (v := .int 1) (ci := 0) (C := RX0) (T := TX0) (N := 8) hx hb hts (in_X5_first_X0) hown hK hM h_lg rfl 1 (by decide) (hK.2.1 _ (List.mem_of_getElem? (i := 5) rfl)) rfl dX5_first_11 ?_
  refine lv_goto (tgt := 19) hx hb dX5_first_14 (by decide) ?_
  exact mm_iret hx hb hr hlk hM hS (rfl) dX5_first_19

theorem in_X5_safe_X0 : ∀ w ∈ u_ws RX0 TX0 8, w ∈ wsX5_safe := fun w h => List.mem_cons_of_mem _ (List.mem_append_right _ h)
theorem in_X5_safe_X5 : ∀ w ∈ u_ws RX5 TX5 10, w ∈ wsX5_safe := fun w h => List.mem_cons_of_mem _ (List.mem_append_left _ (List.mem_append_right _ h))
set_option maxHeartbeats 4000000 in
set_option maxRecDepth 100000 in
theorem c_X5_safe {l : Launch} {D : va_G} {A : Nat → Prop} {cI cS cB cZ : ClassId} {M : Nat → Option va_E} {sz : Nat} {x st qu lg rd dr tp lb : Nat} (h_x : M x = some (Sum.inr (5, [.ref st, .ref qu, .ref lg, .ref rd, .ref dr, .ref tp, .int 0, .int 10, .int 0, .int 1]) : va_E)) (h_lg : M lg = some (Sum.inr (0, [.ref lb, .int 1, .int 1, .int 0, .int 2, .int 0, .int 2, .int 1]) : va_E)) : Met l yX5_safe wsX5_safe ({ frames := 0, cells := 0, slots := 0, locals := 0 }) (mm_Pc D A (mm_T cI cS cB cZ) M sz [.ref x]) (mm_Qi D A (fun r M1 => r = 0)) 0 0 A := by
  refine mm_met (cc := cX5_safe) (maxL := 1) (ret := (some .int)) (by decide) rfl (Nat.le_of_ble_eq_true rfl) ?_
  intro p e s m args below meth c hx hb hr hts hown hlk hin hml hsz hK hM hS ls hl
  subst hsz
  have hl : lv_has ls 1 [(0, .ref x)] := hl
  refine lv_aload_n hx hb dX5_safe_0 rfl (lv_at hl 0 rfl) ?_
  refine mm_get (v := .int 1) (ci := 5) (C := RX5) (T := TX5) (N := 10) hx hb hts (in_X5_safe_X5) hown hK hM h_x rfl 9 (by decide) (hts (.fieldLink RX5 58 "GroupLog" "on" "Z") (List.mem_of_getElem? (i := 1) rfl)) rfl dX5_safe_1 ?_
  refine lv_if_eq (tgt := 17) hx hb dX5_safe_4 (by decide) (fun c_1 => ?_) (fun c_1 => ?_)
  · exact absurd c_1 (by decide)
  refine lv_aload_n hx hb dX5_safe_7 rfl (lv_at hl 0 rfl) ?_
  refine mm_get (v := .ref lg) (ci := 5) (C := RX5) (T := TX5) (N := 10) hx hb hts (in_X5_safe_X5) hown hK hM h_x rfl 2 (by decide) (hts (.fieldLink RX5 26 "GroupLog" "log" "LGroupLog$Log;") (List.mem_of_getElem? (i := 2) rfl)) rfl dX5_safe_8 ?_
  refine mm_getN (v := .int 0) (ci := 0) (C := RX0) (T := TX0) (N := 8) hx hb hts (in_X5_safe_X0) hown hK hM h_lg rfl 3 (by decide) (hK.2.1 _ (List.mem_of_getElem? (i := 10) rfl)) rfl dX5_safe_11 ?_
  refine lv_goto (tgt := 19) hx hb dX5_safe_14 (by decide) ?_
  exact mm_iret hx hb hr hlk hM hS (rfl) dX5_safe_19

theorem in_X5_poke_X5 : ∀ w ∈ u_ws RX5 TX5 10, w ∈ wsX5_poke := fun w h => List.mem_cons_of_mem _ (List.mem_append_left _ (List.mem_append_left _ (List.mem_append_right _ h)))
set_option maxHeartbeats 4000000 in
set_option maxRecDepth 100000 in
theorem c_X5_poke {l : Launch} {D : va_G} {A : Nat → Prop} {cI cS cB cZ : ClassId} {M : Nat → Option va_E} {sz : Nat} {x st qu lg rd dr tp : Nat} {k1 k2 k3 : Int32} (h_x : M x = some (Sum.inr (5, [.ref st, .ref qu, .ref lg, .ref rd, .ref dr, .ref tp, .int 0, .int 10, .int 0, .int 1]) : va_E)) : Met l yX5_poke wsX5_poke ({ frames := 0, cells := 0, slots := 0, locals := 0 }) (mm_Pc D A (mm_T cI cS cB cZ) M sz [.ref x, .int k1, .int k2, .int k3]) (mm_Qi D A (fun r M1 => r = 0)) 0 0 A := by
  refine mm_met (cc := cX5_poke) (maxL := 5) (ret := (some .boolean)) (by decide) rfl (Nat.le_of_ble_eq_true rfl) ?_
  intro p e s m args below meth c hx hb hr hts hown hlk hin hml hsz hK hM hS ls hl
  subst hsz
  have hl : lv_has ls 5 [(0, .ref x), (1, .int k1), (2, .int k2), (3, .int k3)] := hl
  refine lv_aload_n hx hb dX5_poke_0 rfl (lv_at hl 0 rfl) ?_
  refine mm_get (v := .int 1) (ci := 5) (C := RX5) (T := TX5) (N := 10) hx hb hts (in_X5_poke_X5) hown hK hM h_x rfl 9 (by decide) (hts (.fieldLink RX5 58 "GroupLog" "on" "Z") (List.mem_of_getElem? (i := 1) rfl)) rfl dX5_poke_1 ?_
  refine lv_if_ne (tgt := 27) hx hb dX5_poke_4 (by decide) (fun c_1 => ?_) (fun c_1 => ?_)
  rotate_left
  · exact absurd c_1 (by decide)
  refine lv_iconst (v := 0) hx hb dX5_poke_27 (by decide) ?_
  exact mm_zret hx hb hr hlk (rfl) hM hS (rfl) dX5_poke_28

theorem in_X5_size_X5 : ∀ w ∈ u_ws RX5 TX5 10, w ∈ wsX5_size := fun w h => List.mem_cons_of_mem _ (List.mem_append_left _ (List.mem_append_left _ (List.mem_append_left _ (List.mem_append_right _ h))))
set_option maxHeartbeats 4000000 in
set_option maxRecDepth 100000 in
theorem c_X5_size {l : Launch} {D : va_G} {A : Nat → Prop} {cI cS cB cZ : ClassId} {M : Nat → Option va_E} {sz : Nat} {x st qu lg rd dr tp lb : Nat} {k : Int32} (h_x : M x = some (Sum.inr (5, [.ref st, .ref qu, .ref lg, .ref rd, .ref dr, .ref tp, .int 0, .int 10, .int 0, .int 1]) : va_E)) (h_lg : M lg = some (Sum.inr (0, [.ref lb, .int 1, .int 1, .int 0, .int 2, .int 0, .int 2, .int 1]) : va_E)) : Met l yX5_size wsX5_size ({ frames := 1, cells := 0, slots := 0, locals := 21 }) (mm_Pc D A (mm_T cI cS cB cZ) M sz [.ref x, .int k]) (mm_Qi D A (fun r M1 => r = (-1))) 0 0 A := by
  refine mm_met (cc := cX5_size) (maxL := 2) (ret := (some .int)) (by decide) rfl (Nat.le_of_ble_eq_true rfl) ?_
  intro p e s m args below meth c hx hb hr hts hown hlk hin hml hsz hK hM hS ls hl
  subst hsz
  have hl : lv_has ls 2 [(0, .ref x), (1, .int k)] := hl
  refine lv_aload_n hx hb dX5_size_0 rfl (lv_at hl 0 rfl) ?_
  refine mm_get (v := .int 1) (ci := 5) (C := RX5) (T := TX5) (N := 10) hx hb hts (in_X5_size_X5) hown hK hM h_x rfl 9 (by decide) (hts (.fieldLink RX5 58 "GroupLog" "on" "Z") (List.mem_of_getElem? (i := 1) rfl)) rfl dX5_size_1 ?_
  refine lv_if_ne (tgt := 10) hx hb dX5_size_4 (by decide) (fun c_1 => ?_) (fun c_1 => ?_)
  rotate_left
  · exact absurd c_1 (by decide)
  refine lv_aload_n hx hb dX5_size_10 rfl (lv_at hl 0 rfl) ?_
  refine mm_get (v := .ref lg) (ci := 5) (C := RX5) (T := TX5) (N := 10) hx hb hts (in_X5_size_X5) hown hK hM h_x rfl 2 (by decide) (hts (.fieldLink RX5 26 "GroupLog" "log" "LGroupLog$Log;") (List.mem_of_getElem? (i := 2) rfl)) rfl dX5_size_11 ?_
  refine lv_iload_n hx hb dX5_size_14 rfl (lv_at hl 1 rfl) ?_
  refine mm_calli (mm_runV (As := [.int k]) (rest := []) ⟨hx, hb, hml, hown, hts⟩ (c_X0_has h_lg) (cwV 1 hts gX5_size_X0_has rfl rfl rfl (by decide +kernel) ⟨Nat.le_of_ble_eq_true rfl, Nat.le_of_ble_eq_true rfl⟩) hK hM h_lg rfl rfl hl.1 rfl (Nat.le_of_ble_eq_true rfl) dX5_size_15 ⟨Nat.le_of_ble_eq_true rfl, Nat.le_of_ble_eq_true rfl⟩) hS (fun _ h => h) (fun r2 M H locs hp hM hS hz _ => ?_)
  obtain ⟨rfl, hme⟩ := hp
  rw [hme] at hM
  refine lv_if_eq (tgt := 36) hx hb dX5_size_18 (by decide) (fun c_3 => ?_) (fun c_3 => ?_)
  rotate_left
  · exact absurd c_3 (by decide)
  refine lv_iconst (v := (-1)) hx hb dX5_size_36 (by decide) ?_
  exact mm_iret hx hb hr hlk hM hS (rfl) dX5_size_37

theorem in_X5_at_X5 : ∀ w ∈ u_ws RX5 TX5 10, w ∈ wsX5_at := fun w h => List.mem_cons_of_mem _ (List.mem_append_left _ (List.mem_append_left _ (List.mem_append_left _ (List.mem_append_right _ h))))
set_option maxHeartbeats 4000000 in
set_option maxRecDepth 100000 in
theorem c_X5_at {l : Launch} {D : va_G} {A : Nat → Prop} {cI cS cB cZ : ClassId} {M : Nat → Option va_E} {sz : Nat} {x st qu lg rd dr tp lb : Nat} {k i : Int32} (h_x : M x = some (Sum.inr (5, [.ref st, .ref qu, .ref lg, .ref rd, .ref dr, .ref tp, .int 0, .int 10, .int 0, .int 1]) : va_E)) (h_lg : M lg = some (Sum.inr (0, [.ref lb, .int 1, .int 1, .int 0, .int 2, .int 0, .int 2, .int 1]) : va_E)) : Met l yX5_at wsX5_at ({ frames := 1, cells := 0, slots := 0, locals := 21 }) (mm_Pc D A (mm_T cI cS cB cZ) M sz [.ref x, .int k, .int i]) (mm_Qi D A (fun r M1 => r = (-1))) 0 0 A := by
  refine mm_met (cc := cX5_at) (maxL := 3) (ret := (some .int)) (by decide) rfl (Nat.le_of_ble_eq_true rfl) ?_
  intro p e s m args below meth c hx hb hr hts hown hlk hin hml hsz hK hM hS ls hl
  subst hsz
  have hl : lv_has ls 3 [(0, .ref x), (1, .int k), (2, .int i)] := hl
  refine lv_aload_n hx hb dX5_at_0 rfl (lv_at hl 0 rfl) ?_
  refine mm_get (v := .int 1) (ci := 5) (C := RX5) (T := TX5) (N := 10) hx hb hts (in_X5_at_X5) hown hK hM h_x rfl 9 (by decide) (hts (.fieldLink RX5 58 "GroupLog" "on" "Z") (List.mem_of_getElem? (i := 1) rfl)) rfl dX5_at_1 ?_
  refine lv_if_ne (tgt := 10) hx hb dX5_at_4 (by decide) (fun c_1 => ?_) (fun c_1 => ?_)
  rotate_left
  · exact absurd c_1 (by decide)
  refine lv_aload_n hx hb dX5_at_10 rfl (lv_at hl 0 rfl) ?_
  refine mm_get (v := .ref lg) (ci := 5) (C := RX5) (T := TX5) (N := 10) hx hb hts (in_X5_at_X5) hown hK hM h_x rfl 2 (by decide) (hts (.fieldLink RX5 26 "GroupLog" "log" "LGroupLog$Log;") (List.mem_of_getElem? (i := 2) rfl)) rfl dX5_at_11 ?_
  refine lv_iload_n hx hb dX5_at_14 rfl (lv_at hl 1 rfl) ?_
  refine mm_calli (mm_runV (As := [.int k]) (rest := []) ⟨hx, hb, hml, hown, hts⟩ (c_X0_has h_lg) (cwV 1 hts gX5_at_X0_has rfl rfl rfl (by decide +kernel) ⟨Nat.le_of_ble_eq_true rfl, Nat.le_of_ble_eq_true rfl⟩) hK hM h_lg rfl rfl hl.1 rfl (Nat.le_of_ble_eq_true rfl) dX5_at_15 ⟨Nat.le_of_ble_eq_true rfl, Nat.le_of_ble_eq_true rfl⟩) hS (fun _ h => h) (fun r2 M H locs hp hM hS hz _ => ?_)
  obtain ⟨rfl, hme⟩ := hp
  rw [hme] at hM
  refine lv_if_eq (tgt := 41) hx hb dX5_at_18 (by decide) (fun c_3 => ?_) (fun c_3 => ?_)
  rotate_left
  · exact absurd c_3 (by decide)
  refine lv_iconst (v := (-1)) hx hb dX5_at_41 (by decide) ?_
  exact mm_iret hx hb hr hlk hM hS (rfl) dX5_at_42

theorem in_X5_tick_X1 : ∀ w ∈ u_ws RX1 TX1 4, w ∈ wsX5_tick := fun w h => List.mem_cons_of_mem _ (List.mem_append_left _ (List.mem_append_left _ (List.mem_append_left _ (List.mem_append_right _ h))))
theorem in_X5_tick_X5 : ∀ w ∈ u_ws RX5 TX5 10, w ∈ wsX5_tick := fun w h => List.mem_cons_of_mem _ (List.mem_append_left _ (List.mem_append_left _ (List.mem_append_left _ (List.mem_append_left _ (List.mem_append_right _ h)))))
set_option maxHeartbeats 4000000 in
set_option maxRecDepth 100000 in
theorem c_X5_tick {l : Launch} {D : va_G} {A : Nat → Prop} {cI cS cB cZ : ClassId} {M : Nat → Option va_E} {sz : Nat} {x st qu lg rd dr tp qb : Nat} {k : Int32} (h_x : M x = some (Sum.inr (5, [.ref st, .ref qu, .ref lg, .ref rd, .ref dr, .ref tp, .int 0, .int 10, .int 0, .int 1]) : va_E)) (h_qu : M qu = some (Sum.inr (1, [.ref qb, .int 0, .int 0, .int 0]) : va_E)) : Met l yX5_tick wsX5_tick ({ frames := 1, cells := 0, slots := 0, locals := 20 }) (mm_Pc D A (mm_T cI cS cB cZ) M sz [.ref x, .int k]) (mm_Qi D A (fun r M1 => r = tc_f k)) 0 0 A := by
  refine mm_met (cc := cX5_tick) (maxL := 2) (ret := (some .int)) (by decide) rfl (Nat.le_of_ble_eq_true rfl) ?_
  intro p e s m args below meth c hx hb hr hts hown hlk hin hml hsz hK hM hS ls hl
  subst hsz
  have hl : lv_has ls 2 [(0, .ref x), (1, .int k)] := hl
  refine lv_aload_n hx hb dX5_tick_0 rfl (lv_at hl 0 rfl) ?_
  refine mm_get (v := .int 1) (ci := 5) (C := RX5) (T := TX5) (N := 10) hx hb hts (in_X5_tick_X5) hown hK hM h_x rfl 9 (by decide) (hts (.fieldLink RX5 58 "GroupLog" "on" "Z") (List.mem_of_getElem? (i := 1) rfl)) rfl dX5_tick_1 ?_
  refine lv_if_ne (tgt := 10) hx hb dX5_tick_4 (by decide) (fun c_1 => ?_) (fun c_1 => ?_)
  rotate_left
  · exact absurd c_1 (by decide)
  refine lv_iload_n hx hb dX5_tick_10 rfl (lv_at hl 1 rfl) ?_
  refine mm_calli (mm_runS (As := [.int k]) (rest := []) ⟨hx, hb, hml, hown, hts⟩ (c_X5_isTicks ) (va_cwS 1 hts gX5_tick_X5_isTicks rfl rfl rfl (by decide +kernel) ⟨Nat.le_of_ble_eq_true rfl, Nat.le_of_ble_eq_true rfl⟩) hK hM rfl hl.1 rfl (Nat.le_of_ble_eq_true rfl) dX5_tick_11 ⟨Nat.le_of_ble_eq_true rfl, Nat.le_of_ble_eq_true rfl⟩) hS (fun _ h => h) (fun r2 M H locs hp hM hS hz _ => ?_)
  obtain ⟨rfl, hme⟩ := hp
  rw [hme] at hM
  refine lv_if_ne (tgt := 19) hx hb dX5_tick_14 (by decide) (fun c_3 => ?_) (fun c_3 => ?_)
  · skip
    refine lv_aload_n hx hb dX5_tick_19 rfl (lv_at hl 0 rfl) ?_
    refine mm_get (v := .ref qu) (ci := 5) (C := RX5) (T := TX5) (N := 10) hx hb hts (in_X5_tick_X5) hown hK hM h_x rfl 1 (by decide) (hts (.fieldLink RX5 19 "GroupLog" "queue" "LGroupLog$Queue;") (List.mem_of_getElem? (i := 2) rfl)) rfl dX5_tick_20 ?_
    refine mm_getN (v := .int 0) (ci := 1) (C := RX1) (T := TX1) (N := 4) hx hb hts (in_X5_tick_X1) hown hK hM h_qu rfl 2 (by decide) (hK.2.1 _ (List.mem_of_getElem? (i := 11) rfl)) rfl dX5_tick_23 ?_
    refine lv_if_ne (tgt := 31) hx hb dX5_tick_26 (by decide) (fun c_4 => ?_) (fun c_4 => ?_)
    · exact absurd c_4 (by decide)
    refine lv_iconst (v := 0) hx hb dX5_tick_29 (by decide) ?_
    exact mm_iret hx hb hr hlk hM hS (by unfold tc_f; rw [if_neg c_3]) dX5_tick_30
  · skip
    refine lv_iconst (v := (-1)) hx hb dX5_tick_17 (by decide) ?_
    exact mm_iret hx hb hr hlk hM hS (by unfold tc_f; rw [if_pos c_3]) dX5_tick_18

theorem in_X5_arm_X4 : ∀ w ∈ u_ws RX4 TX4 4, w ∈ wsX5_arm := fun w h => List.mem_cons_of_mem _ (List.mem_append_right _ h)
theorem in_X5_arm_X5 : ∀ w ∈ u_ws RX5 TX5 10, w ∈ wsX5_arm := fun w h => List.mem_cons_of_mem _ (List.mem_append_left _ (List.mem_append_right _ h))
set_option maxHeartbeats 4000000 in
set_option maxRecDepth 100000 in
theorem c_X5_arm {l : Launch} {D : va_G} {A : Nat → Prop} {cI cS cB cZ : ClassId} {M : Nat → Option va_E} {sz : Nat} {x st qu lg rd dr tp sa : Nat} {n pt : Int32} (h_x : M x = some (Sum.inr (5, [.ref st, .ref qu, .ref lg, .ref rd, .ref dr, .ref tp, .int 0, .int 10, .int 0, .int 1]) : va_E)) (h_st : M st = some (Sum.inr (4, [.ref sa, .int 0, .int (-1), .int 0]) : va_E)) : Met l yX5_arm wsX5_arm ({ frames := 0, cells := 0, slots := 0, locals := 0 }) (mm_Pc D A (mm_T cI cS cB cZ) M sz [.ref x, .int n, .int pt]) (mm_Qi D A (fun r M1 => r = ar_f n pt)) 0 0 A := by
  refine mm_met (cc := cX5_arm) (maxL := 3) (ret := (some .boolean)) (by decide) rfl (Nat.le_of_ble_eq_true rfl) ?_
  intro p e s m args below meth c hx hb hr hts hown hlk hin hml hsz hK hM hS ls hl
  subst hsz
  have hl : lv_has ls 3 [(0, .ref x), (1, .int n), (2, .int pt)] := hl
  refine lv_aload_n hx hb dX5_arm_0 rfl (lv_at hl 0 rfl) ?_
  refine mm_get (v := .int 1) (ci := 5) (C := RX5) (T := TX5) (N := 10) hx hb hts (in_X5_arm_X5) hown hK hM h_x rfl 9 (by decide) (hts (.fieldLink RX5 58 "GroupLog" "on" "Z") (List.mem_of_getElem? (i := 1) rfl)) rfl dX5_arm_1 ?_
  refine lv_if_eq (tgt := 27) hx hb dX5_arm_4 (by decide) (fun c_1 => ?_) (fun c_1 => ?_)
  · exact absurd c_1 (by decide)
  refine lv_iload_n hx hb dX5_arm_7 rfl (lv_at hl 1 rfl) ?_
  refine lv_if_lt (tgt := 27) hx hb dX5_arm_8 (by decide) (fun c_2 => ?_) (fun c_2 => ?_)
  · skip
    refine lv_iconst (v := 0) hx hb dX5_arm_27 (by decide) ?_
    exact mm_zret hx hb hr hlk (rfl) hM hS (by unfold ar_f; rw [if_pos c_2]) dX5_arm_28
  · skip
    refine lv_iload_n hx hb dX5_arm_11 rfl (lv_at hl 1 rfl) ?_
    refine lv_bipush (v := 100) hx hb dX5_arm_12 (by decide) ?_
    refine lv_icmp_gt (tgt := 27) hx hb dX5_arm_14 (by decide) (fun c_3 => ?_) (fun c_3 => ?_)
    · skip
      refine lv_iconst (v := 0) hx hb dX5_arm_27 (by decide) ?_
      exact mm_zret hx hb hr hlk (rfl) hM hS (by unfold ar_f; rw [if_neg c_2, if_pos c_3]) dX5_arm_28
    · skip
      refine lv_iload_n hx hb dX5_arm_17 rfl (lv_at hl 2 rfl) ?_
      refine lv_if_lt (tgt := 27) hx hb dX5_arm_18 (by decide) (fun c_4 => ?_) (fun c_4 => ?_)
      · skip
        refine lv_iconst (v := 0) hx hb dX5_arm_27 (by decide) ?_
        exact mm_zret hx hb hr hlk (rfl) hM hS (by unfold ar_f; rw [if_neg c_2, if_neg c_3, if_pos c_4]) dX5_arm_28
      · skip
        refine lv_iload_n hx hb dX5_arm_21 rfl (lv_at hl 2 rfl) ?_
        refine lv_bipush (v := 64) hx hb dX5_arm_22 (by decide) ?_
        refine lv_icmp_lt (tgt := 29) hx hb dX5_arm_24 (by decide) (fun c_5 => ?_) (fun c_5 => ?_)
        · skip
          refine lv_aload_n hx hb dX5_arm_29 rfl (lv_at hl 0 rfl) ?_
          refine mm_get (v := .ref st) (ci := 5) (C := RX5) (T := TX5) (N := 10) hx hb hts (in_X5_arm_X5) hown hK hM h_x rfl 0 (by decide) (hts (.fieldLink RX5 12 "GroupLog" "store" "LGroupLog$Store;") (List.mem_of_getElem? (i := 2) rfl)) rfl dX5_arm_30 ?_
          refine lv_iload_n hx hb dX5_arm_33 rfl (lv_at hl 1 rfl) ?_
          refine mm_putN (v := .int n) (ci := 4) (C := RX4) (T := TX4) (N := 4) hx hb hts (in_X5_arm_X4) tyX4 tyX4_ok nmX4 hown hK hM hS h_st rfl 2 (by decide) (hK.2.1 _ (List.mem_of_getElem? (i := 3) rfl)) rfl rfl rfl (Nat.le_of_ble_eq_true rfl) dX5_arm_34 (fun H locs M hM ha ho hS => ?_)
          have h_x := (ho x (mm_ne h_x h_st (mm_oo (by decide)))).trans h_x
          have h_st : _ = some (Sum.inr (4, [.ref sa, .int 0, .int n, .int 0]) : va_E) := ha
          refine lv_aload_n hx hb dX5_arm_37 rfl (lv_at hl 0 rfl) ?_
          refine mm_get (v := .ref st) (ci := 5) (C := RX5) (T := TX5) (N := 10) hx hb hts (in_X5_arm_X5) hown hK hM h_x rfl 0 (by decide) (hts (.fieldLink RX5 12 "GroupLog" "store" "LGroupLog$Store;") (List.mem_of_getElem? (i := 2) rfl)) rfl dX5_arm_38 ?_
          refine lv_iload_n hx hb dX5_arm_41 rfl (lv_at hl 2 rfl) ?_
          refine mm_putN (v := .int pt) (ci := 4) (C := RX4) (T := TX4) (N := 4) hx hb hts (in_X5_arm_X4) tyX4 tyX4_ok nmX4 hown hK hM hS h_st rfl 3 (by decide) (hK.2.1 _ (List.mem_of_getElem? (i := 4) rfl)) rfl rfl rfl (Nat.le_of_ble_eq_true rfl) dX5_arm_42 (fun H locs M hM ha ho hS => ?_)
          have h_x := (ho x (mm_ne h_x h_st (mm_oo (by decide)))).trans h_x
          have h_st : _ = some (Sum.inr (4, [.ref sa, .int 0, .int n, .int pt]) : va_E) := ha
          refine lv_iconst (v := 1) hx hb dX5_arm_45 (by decide) ?_
          exact mm_zret hx hb hr hlk (rfl) hM hS (by unfold ar_f; rw [if_neg c_2, if_neg c_3, if_neg c_4, if_neg (ar_lt.mp c_5)]) dX5_arm_46
        · skip
          refine lv_iconst (v := 0) hx hb dX5_arm_27 (by decide) ?_
          exact mm_zret hx hb hr hlk (rfl) hM hS (by unfold ar_f; rw [if_neg c_2, if_neg c_3, if_neg c_4, if_pos (Decidable.byContradiction (fun h => c_5 (ar_lt.mpr h)))]) dX5_arm_28

theorem in_X5_powerGoes_X4 : ∀ w ∈ u_ws RX4 TX4 4, w ∈ wsX5_powerGoes := fun w h => List.mem_cons_of_mem _ (List.mem_append_left _ (List.mem_append_right _ h))
theorem in_X5_powerGoes_X5 : ∀ w ∈ u_ws RX5 TX5 10, w ∈ wsX5_powerGoes := fun w h => List.mem_cons_of_mem _ (List.mem_append_left _ (List.mem_append_left _ (List.mem_append_right _ h)))
set_option maxHeartbeats 4000000 in
set_option maxRecDepth 100000 in
theorem c_X5_powerGoes {l : Launch} {D : va_G} {A : Nat → Prop} {cI cS cB cZ : ClassId} {M : Nat → Option va_E} {sz : Nat} {x st qu lg rd dr tp sa qb : Nat} (h_x : M x = some (Sum.inr (5, [.ref st, .ref qu, .ref lg, .ref rd, .ref dr, .ref tp, .int 0, .int 10, .int 0, .int 1]) : va_E)) (h_qu : M qu = some (Sum.inr (1, [.ref qb, .int 0, .int 0, .int 0]) : va_E)) (h_st : M st = some (Sum.inr (4, [.ref sa, .int 0, .int (-1), .int 0]) : va_E)) : Met l yX5_powerGoes wsX5_powerGoes ({ frames := 1, cells := 0, slots := 0, locals := 20 }) (mm_Pc D A (mm_T cI cS cB cZ) M sz [.ref x]) (mm_Qv D A (fun M1 => True)) 0 0 A := by
  refine mm_met (cc := cX5_powerGoes) (maxL := 1) (ret := none) (by decide) rfl (Nat.le_of_ble_eq_true rfl) ?_
  intro p e s m args below meth c hx hb hr hts hown hlk hin hml hsz hK hM hS ls hl
  subst hsz
  have hl : lv_has ls 1 [(0, .ref x)] := hl
  refine lv_aload_n hx hb dX5_powerGoes_0 rfl (lv_at hl 0 rfl) ?_
  refine lv_iconst (v := 0) hx hb dX5_powerGoes_1 (by decide) ?_
  refine mm_put (v := .int 0) (ci := 5) (C := RX5) (T := TX5) (N := 10) hx hb hts (in_X5_powerGoes_X5) tyX5 tyX5_ok nmX5 hown hK hM hS h_x rfl 9 (by decide) (hts (.fieldLink RX5 58 "GroupLog" "on" "Z") (List.mem_of_getElem? (i := 1) rfl)) rfl rfl rfl (Nat.le_of_ble_eq_true rfl) dX5_powerGoes_2 (fun H locs M hM ha ho hS => ?_)
  have h_qu := (ho qu (mm_ne h_qu h_x (mm_oo (by decide)))).trans h_qu
  have h_st := (ho st (mm_ne h_st h_x (mm_oo (by decide)))).trans h_st
  have h_x : _ = some (Sum.inr (5, [.ref st, .ref qu, .ref lg, .ref rd, .ref dr, .ref tp, .int 0, .int 10, .int 0, .int 0]) : va_E) := ha
  refine lv_aload_n hx hb dX5_powerGoes_5 rfl (lv_at hl 0 rfl) ?_
  refine mm_get (v := .ref qu) (ci := 5) (C := RX5) (T := TX5) (N := 10) hx hb hts (in_X5_powerGoes_X5) hown hK hM h_x rfl 1 (by decide) (hts (.fieldLink RX5 19 "GroupLog" "queue" "LGroupLog$Queue;") (List.mem_of_getElem? (i := 2) rfl)) rfl dX5_powerGoes_6 ?_
  refine mm_callv (mm_runV (As := []) (rest := []) ⟨hx, hb, hml, hown, hts⟩ (c_X1_empty h_qu) (cwV 0 hts gX5_powerGoes_X1_empty rfl rfl rfl (by decide +kernel) ⟨Nat.le_of_ble_eq_true rfl, Nat.le_of_ble_eq_true rfl⟩) hK hM h_qu rfl rfl hl.1 rfl (Nat.le_of_ble_eq_true rfl) dX5_powerGoes_9 ⟨Nat.le_of_ble_eq_true rfl, Nat.le_of_ble_eq_true rfl⟩) hS (fun _ h => h) (fun M H locs hp hM hS hz _ => ?_)
  obtain ⟨ha, ho⟩ := hp
  have h_x := (ho x (mm_ne h_x h_qu (mm_oo (by decide)))).trans h_x
  have h_st := (ho st (mm_ne h_st h_qu (mm_oo (by decide)))).trans h_st
  have h_qu : _ = some (Sum.inr (1, [.ref qb, .int 0, .int 0, .int 0]) : va_E) := ha
  refine lv_aload_n hx hb dX5_powerGoes_12 rfl (lv_at hl 0 rfl) ?_
  refine mm_get (v := .ref st) (ci := 5) (C := RX5) (T := TX5) (N := 10) hx hb hts (in_X5_powerGoes_X5) hown hK hM h_x rfl 0 (by decide) (hts (.fieldLink RX5 12 "GroupLog" "store" "LGroupLog$Store;") (List.mem_of_getElem? (i := 3) rfl)) rfl dX5_powerGoes_13 ?_
  refine lv_iconst (v := (-1)) hx hb dX5_powerGoes_16 (by decide) ?_
  refine mm_putN (v := .int (-1)) (ci := 4) (C := RX4) (T := TX4) (N := 4) hx hb hts (in_X5_powerGoes_X4) tyX4 tyX4_ok nmX4 hown hK hM hS h_st rfl 2 (by decide) (hK.2.1 _ (List.mem_of_getElem? (i := 3) rfl)) rfl rfl rfl (Nat.le_of_ble_eq_true rfl) dX5_powerGoes_17 (fun H locs M hM ha ho hS => ?_)
  have h_x := (ho x (mm_ne h_x h_st (mm_oo (by decide)))).trans h_x
  have h_qu := (ho qu (mm_ne h_qu h_st (mm_oo (by decide)))).trans h_qu
  have h_st : _ = some (Sum.inr (4, [.ref sa, .int 0, .int (-1), .int 0]) : va_E) := ha
  exact mm_vret hx hb hr hlk hM hS (trivial) dX5_powerGoes_20

theorem in_X5_cut_X5 : ∀ w ∈ u_ws RX5 TX5 10, w ∈ wsX5_cut := fun w h => List.mem_cons_of_mem _ (List.mem_append_left _ (List.mem_append_left _ (List.mem_append_right _ h)))
set_option maxHeartbeats 4000000 in
set_option maxRecDepth 100000 in
theorem c_X5_cut {l : Launch} {D : va_G} {A : Nat → Prop} {cI cS cB cZ : ClassId} {M : Nat → Option va_E} {sz : Nat} {x st qu lg rd dr tp sa qb : Nat} (h_x : M x = some (Sum.inr (5, [.ref st, .ref qu, .ref lg, .ref rd, .ref dr, .ref tp, .int 0, .int 10, .int 0, .int 1]) : va_E)) (h_qu : M qu = some (Sum.inr (1, [.ref qb, .int 0, .int 0, .int 0]) : va_E)) (h_st : M st = some (Sum.inr (4, [.ref sa, .int 0, .int (-1), .int 0]) : va_E)) : Met l yX5_cut wsX5_cut ({ frames := 2, cells := 0, slots := 0, locals := 40 }) (mm_Pc D A (mm_T cI cS cB cZ) M sz [.ref x]) (mm_Qi D A (fun r M1 => r = 1)) 0 0 A := by
  refine mm_met (cc := cX5_cut) (maxL := 1) (ret := (some .boolean)) (by decide) rfl (Nat.le_of_ble_eq_true rfl) ?_
  intro p e s m args below meth c hx hb hr hts hown hlk hin hml hsz hK hM hS ls hl
  subst hsz
  have hl : lv_has ls 1 [(0, .ref x)] := hl
  refine lv_aload_n hx hb dX5_cut_0 rfl (lv_at hl 0 rfl) ?_
  refine mm_get (v := .int 1) (ci := 5) (C := RX5) (T := TX5) (N := 10) hx hb hts (in_X5_cut_X5) hown hK hM h_x rfl 9 (by decide) (hts (.fieldLink RX5 58 "GroupLog" "on" "Z") (List.mem_of_getElem? (i := 1) rfl)) rfl dX5_cut_1 ?_
  refine lv_if_ne (tgt := 9) hx hb dX5_cut_4 (by decide) (fun c_1 => ?_) (fun c_1 => ?_)
  rotate_left
  · exact absurd c_1 (by decide)
  refine lv_aload_n hx hb dX5_cut_9 rfl (lv_at hl 0 rfl) ?_
  refine mm_callv (mm_runV (As := []) (rest := []) ⟨hx, hb, hml, hown, hts⟩ (c_X5_powerGoes (tp := tp) h_x h_qu h_st) (cwV 0 hts gX5_cut_X5_powerGoes rfl rfl rfl (by decide +kernel) ⟨Nat.le_of_ble_eq_true rfl, Nat.le_of_ble_eq_true rfl⟩) hK hM h_x rfl rfl hl.1 rfl (Nat.le_of_ble_eq_true rfl) dX5_cut_10 ⟨Nat.le_of_ble_eq_true rfl, Nat.le_of_ble_eq_true rfl⟩) hS (fun _ h => h) (fun M H locs hp hM hS hz _ => ?_)
  refine lv_iconst (v := 1) hx hb dX5_cut_13 (by decide) ?_
  exact mm_zret hx hb hr hlk (rfl) hM hS (rfl) dX5_cut_14

theorem in_X5_writeQueue_X0 : ∀ w ∈ u_ws RX0 TX0 8, w ∈ wsX5_writeQueue := fun w h => List.mem_cons_of_mem _ (List.mem_append_left _ (List.mem_append_left _ (List.mem_append_left _ (List.mem_append_right _ h))))
theorem in_X5_writeQueue_X5 : ∀ w ∈ u_ws RX5 TX5 10, w ∈ wsX5_writeQueue := fun w h => List.mem_cons_of_mem _ (List.mem_append_left _ (List.mem_append_left _ (List.mem_append_left _ (List.mem_append_left _ (List.mem_append_right _ h)))))
set_option maxHeartbeats 4000000 in
set_option maxRecDepth 100000 in
/-- GroupLog.writeQueue of a new object -/
theorem c_X5_writeQueue {l : Launch} {D : va_G} {A : Nat → Prop} {cI cS cB cZ : ClassId} {M : Nat → Option va_E} {sz : Nat} {x st qu lg rd dr tp sa qb lb : Nat} {fa : Nat → Option Nat} {g h : Nat → Nat} (hI : st_inv cI M fa g h gl_F 64) (h_x : M x = some (Sum.inr (5, [.ref st, .ref qu, .ref lg, .ref rd, .ref dr, .ref tp, .int 0, .int 10, .int 0, .int 1]) : va_E)) (h_st : M st = some (Sum.inr (4, [.ref sa, .int 0, .int (-1), .int 0]) : va_E)) (h_sa : M sa = some (Sum.inl (cS, 64, .inr (.inr (.inr (.inr (fa))))) : va_E)) (h_qu : M qu = some (Sum.inr (1, [.ref qb, .int 0, .int 0, .int 0]) : va_E)) (h_lg : M lg = some (Sum.inr (0, [.ref lb, .int 1, .int 1, .int 0, .int 2, .int 0, .int 2, .int 1]) : va_E)) : Met l yX5_writeQueue wsX5_writeQueue ({ frames := 5, cells := 0, slots := 0, locals := 109 }) (mm_Pc D A (mm_T cI cS cB cZ) M sz [.ref x]) (mm_Qi D A (fun r M1 => r = 0)) 0 0 A := by
  refine mm_met (cc := cX5_writeQueue) (maxL := 6) (ret := (some .int)) (by decide) rfl (Nat.le_of_ble_eq_true rfl) ?_
  intro p e s m args below meth c hx hb hr hts hown hlk hin hml hsz hK hM hS ls hl
  subst hsz
  have hl : lv_has ls 6 [(0, .ref x)] := hl
  have h_g0 := (hI 0 (by decide)).2.1
  have h_h0 : _ = some (Sum.inl (cI, 64, .inl (hd_f 1 1 1 2)) : va_E) := (hI 0 (by decide)).2.2.1
  have h_g1 := (hI 1 (by decide)).2.1
  have h_h1 : _ = some (Sum.inl (cI, 64, .inl (fun _ => 0)) : va_E) := (hI 1 (by decide)).2.2.1
  refine lv_aload_n hx hb dX5_writeQueue_0 rfl (lv_at hl 0 rfl) ?_
  refine mm_get (v := .ref lg) (ci := 5) (C := RX5) (T := TX5) (N := 10) hx hb hts (in_X5_writeQueue_X5) hown hK hM h_x rfl 2 (by decide) (hts (.fieldLink RX5 26 "GroupLog" "log" "LGroupLog$Log;") (List.mem_of_getElem? (i := 1) rfl)) rfl dX5_writeQueue_1 ?_
  refine mm_getN (v := .int 2) (ci := 0) (C := RX0) (T := TX0) (N := 8) hx hb hts (in_X5_writeQueue_X0) hown hK hM h_lg rfl 6 (by decide) (hK.2.1 _ (List.mem_of_getElem? (i := 8) rfl)) rfl dX5_writeQueue_4 ?_
  refine lv_istore_n (lv' := [(1, .int 2), (0, .ref x)]) hx hb dX5_writeQueue_7 rfl hl (by decide) rfl (fun ls hl => ?_)
  refine lv_aload_n hx hb dX5_writeQueue_8 rfl (lv_at hl 1 rfl) ?_
  refine mm_get (v := .ref qu) (ci := 5) (C := RX5) (T := TX5) (N := 10) hx hb hts (in_X5_writeQueue_X5) hown hK hM h_x rfl 1 (by decide) (hts (.fieldLink RX5 19 "GroupLog" "queue" "LGroupLog$Queue;") (List.mem_of_getElem? (i := 2) rfl)) rfl dX5_writeQueue_9 ?_
  refine lv_iconst (v := 0) hx hb dX5_writeQueue_12 (by decide) ?_
  refine mm_calli (mm_runV (As := [.int 0]) (rest := []) ⟨hx, hb, hml, hown, hts⟩ (c_X1_sectorsWith h_qu) (cwV 1 hts gX5_writeQueue_X1_sectorsWith rfl rfl rfl (by decide +kernel) ⟨Nat.le_of_ble_eq_true rfl, Nat.le_of_ble_eq_true rfl⟩) hK hM h_qu rfl rfl hl.1 rfl (Nat.le_of_ble_eq_true rfl) dX5_writeQueue_13 ⟨Nat.le_of_ble_eq_true rfl, Nat.le_of_ble_eq_true rfl⟩) hS (fun _ h => h) (fun r1 M H locs hp hM hS hz _ => ?_)
  obtain ⟨rfl, hme⟩ := hp
  rw [hme] at hM
  refine lv_istore_n (lv' := [(2, .int 0), (1, .int 2), (0, .ref x)]) hx hb dX5_writeQueue_16 rfl hl (by decide) rfl (fun ls hl => ?_)
  refine lv_aload_n hx hb dX5_writeQueue_17 rfl (lv_at hl 2 rfl) ?_
  refine mm_get (v := .ref st) (ci := 5) (C := RX5) (T := TX5) (N := 10) hx hb hts (in_X5_writeQueue_X5) hown hK hM h_x rfl 0 (by decide) (hts (.fieldLink RX5 12 "GroupLog" "store" "LGroupLog$Store;") (List.mem_of_getElem? (i := 3) rfl)) rfl dX5_writeQueue_18 ?_
  refine mm_calli (mm_runV (As := []) (rest := []) ⟨hx, hb, hml, hown, hts⟩ (c_X4_headVersion (hI 0 (by decide)).1 (hI 1 (by decide)).1 h_st h_sa h_g0 h_h0 h_g1 h_h1) (cwV 0 hts gX5_writeQueue_X4_headVersion rfl rfl rfl (by decide +kernel) ⟨Nat.le_of_ble_eq_true rfl, Nat.le_of_ble_eq_true rfl⟩) hK hM h_st rfl rfl hl.1 rfl (Nat.le_of_ble_eq_true rfl) dX5_writeQueue_21 ⟨Nat.le_of_ble_eq_true rfl, Nat.le_of_ble_eq_true rfl⟩) hS (fun _ h => h) (fun r2 M H locs hp hM hS hz _ => ?_)
  obtain ⟨rfl, hme⟩ := hp
  rw [hme] at hM
  refine lv_istore_n (lv' := [(3, .int 1), (2, .int 0), (1, .int 2), (0, .ref x)]) hx hb dX5_writeQueue_24 rfl hl (by decide) rfl (fun ls hl => ?_)
  refine lv_iconst (v := 0) hx hb dX5_writeQueue_25 (by decide) ?_
  refine lv_istore (lv' := [(4, .int 0), (3, .int 1), (2, .int 0), (1, .int 2), (0, .ref x)]) hx hb dX5_writeQueue_26 hl (by decide) rfl (fun ls hl => ?_)
  refine lv_iconst (v := 0) hx hb dX5_writeQueue_28 (by decide) ?_
  refine lv_istore (lv' := [(5, .int 0), (4, .int 0), (3, .int 1), (2, .int 0), (1, .int 2), (0, .ref x)]) hx hb dX5_writeQueue_29 hl (by decide) rfl (fun ls hl => ?_)
  refine lv_iload hx hb dX5_writeQueue_31 (lv_at hl 0 rfl) ?_
  refine lv_iload_n hx hb dX5_writeQueue_33 rfl (lv_at hl 3 rfl) ?_
  refine lv_icmp_ge (tgt := 103) hx hb dX5_writeQueue_34 (by decide) (fun c_3 => ?_) (fun c_3 => ?_)
  rotate_left
  · exact absurd c_3 (by decide)
  refine lv_iload hx hb dX5_writeQueue_103 (lv_at hl 1 rfl) ?_
  refine lv_if_le (tgt := 118) hx hb dX5_writeQueue_105 (by decide) (fun c_4 => ?_) (fun c_4 => ?_)
  rotate_left
  · exact absurd c_4 (by decide)
  refine lv_aload_n hx hb dX5_writeQueue_118 rfl (lv_at hl 5 rfl) ?_
  refine mm_get (v := .int 1) (ci := 5) (C := RX5) (T := TX5) (N := 10) hx hb hts (in_X5_writeQueue_X5) hown hK hM h_x rfl 9 (by decide) (hts (.fieldLink RX5 58 "GroupLog" "on" "Z") (List.mem_of_getElem? (i := 4) rfl)) rfl dX5_writeQueue_119 ?_
  refine lv_if_eq (tgt := 144) hx hb dX5_writeQueue_122 (by decide) (fun c_5 => ?_) (fun c_5 => ?_)
  · exact absurd c_5 (by decide)
  refine lv_aload_n hx hb dX5_writeQueue_125 rfl (lv_at hl 5 rfl) ?_
  refine mm_get (v := .ref qu) (ci := 5) (C := RX5) (T := TX5) (N := 10) hx hb hts (in_X5_writeQueue_X5) hown hK hM h_x rfl 1 (by decide) (hts (.fieldLink RX5 19 "GroupLog" "queue" "LGroupLog$Queue;") (List.mem_of_getElem? (i := 2) rfl)) rfl dX5_writeQueue_126 ?_
  refine lv_aload_n hx hb dX5_writeQueue_129 rfl (lv_at hl 5 rfl) ?_
  refine mm_get (v := .ref lg) (ci := 5) (C := RX5) (T := TX5) (N := 10) hx hb hts (in_X5_writeQueue_X5) hown hK hM h_x rfl 2 (by decide) (hts (.fieldLink RX5 26 "GroupLog" "log" "LGroupLog$Log;") (List.mem_of_getElem? (i := 1) rfl)) rfl dX5_writeQueue_130 ?_
  refine lv_iload_n hx hb dX5_writeQueue_133 rfl (lv_at hl 4 rfl) ?_
  refine mm_callv (mm_runV (As := [.ref lg, .int 2]) (rest := []) ⟨hx, hb, hml, hown, hts⟩ (c_X1_tellTo h_qu) (cwV 2 hts gX5_writeQueue_X1_tellTo rfl rfl rfl (by decide +kernel) ⟨Nat.le_of_ble_eq_true rfl, Nat.le_of_ble_eq_true rfl⟩) hK hM h_qu rfl rfl hl.1 rfl (Nat.le_of_ble_eq_true rfl) dX5_writeQueue_134 ⟨Nat.le_of_ble_eq_true rfl, Nat.le_of_ble_eq_true rfl⟩) hS (fun _ h => h) (fun M H locs hp hM hS hz _ => ?_)
  rw [hp] at hM
  refine lv_aload_n hx hb dX5_writeQueue_137 rfl (lv_at hl 5 rfl) ?_
  refine mm_get (v := .ref qu) (ci := 5) (C := RX5) (T := TX5) (N := 10) hx hb hts (in_X5_writeQueue_X5) hown hK hM h_x rfl 1 (by decide) (hts (.fieldLink RX5 19 "GroupLog" "queue" "LGroupLog$Queue;") (List.mem_of_getElem? (i := 2) rfl)) rfl dX5_writeQueue_138 ?_
  refine mm_callv (mm_runV (As := []) (rest := []) ⟨hx, hb, hml, hown, hts⟩ (c_X1_empty h_qu) (cwV 0 hts gX5_writeQueue_X1_empty rfl rfl rfl (by decide +kernel) ⟨Nat.le_of_ble_eq_true rfl, Nat.le_of_ble_eq_true rfl⟩) hK hM h_qu rfl rfl hl.1 rfl (Nat.le_of_ble_eq_true rfl) dX5_writeQueue_141 ⟨Nat.le_of_ble_eq_true rfl, Nat.le_of_ble_eq_true rfl⟩) hS (fun _ h => h) (fun M H locs hp hM hS hz _ => ?_)
  refine lv_iload hx hb dX5_writeQueue_144 (lv_at hl 1 rfl) ?_
  exact mm_iret hx hb hr hlk hM hS (rfl) dX5_writeQueue_146

theorem in_X5_flush_X5 : ∀ w ∈ u_ws RX5 TX5 10, w ∈ wsX5_flush := fun w h => List.mem_cons_of_mem _ (List.mem_append_left _ (List.mem_append_left _ (List.mem_append_left _ (List.mem_append_left _ (List.mem_append_right _ h)))))
set_option maxHeartbeats 4000000 in
set_option maxRecDepth 100000 in
theorem c_X5_flush {l : Launch} {D : va_G} {A : Nat → Prop} {cI cS cB cZ : ClassId} {M : Nat → Option va_E} {sz : Nat} {x st qu lg rd dr tp sa qb lb : Nat} {fa : Nat → Option Nat} {g h : Nat → Nat} (hI : st_inv cI M fa g h gl_F 64) (h_x : M x = some (Sum.inr (5, [.ref st, .ref qu, .ref lg, .ref rd, .ref dr, .ref tp, .int 0, .int 10, .int 0, .int 1]) : va_E)) (h_st : M st = some (Sum.inr (4, [.ref sa, .int 0, .int (-1), .int 0]) : va_E)) (h_sa : M sa = some (Sum.inl (cS, 64, .inr (.inr (.inr (.inr (fa))))) : va_E)) (h_qu : M qu = some (Sum.inr (1, [.ref qb, .int 0, .int 0, .int 0]) : va_E)) (h_lg : M lg = some (Sum.inr (0, [.ref lb, .int 1, .int 1, .int 0, .int 2, .int 0, .int 2, .int 1]) : va_E)) : Met l yX5_flush wsX5_flush ({ frames := 6, cells := 0, slots := 0, locals := 134 }) (mm_Pc D A (mm_T cI cS cB cZ) M sz [.ref x]) (mm_Qi D A (fun r M1 => r = 0)) 0 0 A := by
  refine mm_met (cc := cX5_flush) (maxL := 1) (ret := (some .int)) (by decide) rfl (Nat.le_of_ble_eq_true rfl) ?_
  intro p e s m args below meth c hx hb hr hts hown hlk hin hml hsz hK hM hS ls hl
  subst hsz
  have hl : lv_has ls 1 [(0, .ref x)] := hl
  refine lv_aload_n hx hb dX5_flush_0 rfl (lv_at hl 0 rfl) ?_
  refine mm_get (v := .int 1) (ci := 5) (C := RX5) (T := TX5) (N := 10) hx hb hts (in_X5_flush_X5) hown hK hM h_x rfl 9 (by decide) (hts (.fieldLink RX5 58 "GroupLog" "on" "Z") (List.mem_of_getElem? (i := 1) rfl)) rfl dX5_flush_1 ?_
  refine lv_if_eq (tgt := 14) hx hb dX5_flush_4 (by decide) (fun c_1 => ?_) (fun c_1 => ?_)
  · exact absurd c_1 (by decide)
  refine lv_aload_n hx hb dX5_flush_7 rfl (lv_at hl 0 rfl) ?_
  refine mm_calli (mm_runV (As := []) (rest := []) ⟨hx, hb, hml, hown, hts⟩ (c_X5_writeQueue (dr := dr) (tp := tp) hI h_x h_st h_sa h_qu h_lg) (cwV 0 hts gX5_flush_X5_writeQueue rfl rfl rfl (by decide +kernel) ⟨Nat.le_of_ble_eq_true rfl, Nat.le_of_ble_eq_true rfl⟩) hK hM h_x rfl rfl hl.1 rfl (Nat.le_of_ble_eq_true rfl) dX5_flush_8 ⟨Nat.le_of_ble_eq_true rfl, Nat.le_of_ble_eq_true rfl⟩) hS (fun _ h => h) (fun r2 M H locs hp hM hS hz _ => ?_)
  subst hp
  refine lv_goto (tgt := 16) hx hb dX5_flush_11 (by decide) ?_
  exact mm_iret hx hb hr hlk hM hS (rfl) dX5_flush_16

theorem in_X5_writeDraft_X5 : ∀ w ∈ u_ws RX5 TX5 10, w ∈ wsX5_writeDraft := fun w h => List.mem_cons_of_mem _ (List.mem_append_left _ (List.mem_append_left _ (List.mem_append_left _ (List.mem_append_right _ h))))
set_option maxHeartbeats 4000000 in
set_option maxRecDepth 100000 in
theorem c_X5_writeDraft1 {l : Launch} {D : va_G} {A : Nat → Prop} {cI cS cB cZ : ClassId} {M : Nat → Option va_E} {sz : Nat} {x st qu lg rd dr tp sa db : Nat} {fa : Nat → Option Nat} {g h : Nat → Nat} {fd : Nat → Int32} (w1 : fa 1 = some (g 1)) (hne : h 1 ≠ db) (h_x : M x = some (Sum.inr (5, [.ref st, .ref qu, .ref lg, .ref rd, .ref dr, .ref tp, .int 0, .int 10, .int 0, .int 1]) : va_E)) (h_st : M st = some (Sum.inr (4, [.ref sa, .int 0, .int (-1), .int 0]) : va_E)) (h_sa : M sa = some (Sum.inl (cS, 64, .inr (.inr (.inr (.inr (fa))))) : va_E)) (h_dr : M dr = some (Sum.inr (3, [.ref db, .int 0]) : va_E)) (h_db : M db = some (Sum.inl (cI, 64, .inl (fd)) : va_E)) (h_g1 : M (g 1) = some (Sum.inr (3, [.ref (h 1), .int 0]) : va_E)) (h_h1 : M (h 1) = some (Sum.inl (cI, 64, .inl (fun _ => 0)) : va_E)) : Met l yX5_writeDraft wsX5_writeDraft ({ frames := 4, cells := 0, slots := 0, locals := 88 }) (mm_Pc D A (mm_T cI cS cB cZ) M sz [.ref x, .int 1]) (mm_Qi D A (fun r M1 => r = 1 ∧ ∀ q, q ≠ st → q ≠ g 1 → q ≠ h 1 → M1 q = M q)) 0 0 A := by
  refine mm_met (cc := cX5_writeDraft) (maxL := 3) (ret := (some .boolean)) (by decide) rfl (Nat.le_of_ble_eq_true rfl) ?_
  intro p e s m args below meth c hx hb hr hts hown hlk hin hml hsz hK hM hS ls hl
  subst hsz
  have hl : lv_has ls 3 [(0, .ref x), (1, .int 1)] := hl
  refine lv_aload_n hx hb dX5_writeDraft_0 rfl (lv_at hl 0 rfl) ?_
  refine mm_get (v := .ref st) (ci := 5) (C := RX5) (T := TX5) (N := 10) hx hb hts (in_X5_writeDraft_X5) hown hK hM h_x rfl 0 (by decide) (hts (.fieldLink RX5 12 "GroupLog" "store" "LGroupLog$Store;") (List.mem_of_getElem? (i := 1) rfl)) rfl dX5_writeDraft_1 ?_
  refine lv_iload_n hx hb dX5_writeDraft_4 rfl (lv_at hl 1 rfl) ?_
  refine lv_aload_n hx hb dX5_writeDraft_5 rfl (lv_at hl 0 rfl) ?_
  refine mm_get (v := .ref dr) (ci := 5) (C := RX5) (T := TX5) (N := 10) hx hb hts (in_X5_writeDraft_X5) hown hK hM h_x rfl 4 (by decide) (hts (.fieldLink RX5 40 "GroupLog" "draft" "LGroupLog$Sector;") (List.mem_of_getElem? (i := 2) rfl)) rfl dX5_writeDraft_6 ?_
  refine mm_calli (mm_runV (As := [.int 1, .ref dr]) (rest := []) ⟨hx, hb, hml, hown, hts⟩ (c_X4_write w1 hne h_st h_sa h_g1 h_h1 h_dr h_db) (cwV 2 hts gX5_writeDraft_X4_write rfl rfl rfl (by decide +kernel) ⟨Nat.le_of_ble_eq_true rfl, Nat.le_of_ble_eq_true rfl⟩) hK hM h_st rfl rfl hl.1 rfl (Nat.le_of_ble_eq_true rfl) dX5_writeDraft_9 ⟨Nat.le_of_ble_eq_true rfl, Nat.le_of_ble_eq_true rfl⟩) hS (fun _ h => h) (fun r1 M H locs hp hM hS hz _ => ?_)
  obtain ⟨rfl, ho⟩ := hp
  refine lv_istore_n (lv' := [(2, .int 1), (0, .ref x), (1, .int 1)]) hx hb dX5_writeDraft_12 rfl hl (by decide) rfl (fun ls hl => ?_)
  refine lv_iload_n hx hb dX5_writeDraft_13 rfl (lv_at hl 0 rfl) ?_
  refine lv_if_ne (tgt := 21) hx hb dX5_writeDraft_14 (by decide) (fun c_2 => ?_) (fun c_2 => ?_)
  rotate_left
  · exact absurd c_2 (by decide)
  refine lv_iload_n hx hb dX5_writeDraft_21 rfl (lv_at hl 0 rfl) ?_
  exact mm_zret hx hb hr hlk (rfl) hM hS (⟨rfl, ho⟩) dX5_writeDraft_22

theorem in_X5_writeHead_X5 : ∀ w ∈ u_ws RX5 TX5 10, w ∈ wsX5_writeHead := fun w h => List.mem_cons_of_mem _ (List.mem_append_left _ (List.mem_append_left _ (List.mem_append_left _ (List.mem_append_right _ h))))
set_option maxHeartbeats 4000000 in
set_option maxRecDepth 100000 in
/-- GroupLog.writeHead of a new object -/
theorem c_X5_writeHead {l : Launch} {D : va_G} {A : Nat → Prop} {cI cS cB cZ : ClassId} {M : Nat → Option va_E} {sz : Nat} {x st qu lg rd dr tp sa db : Nat} {fa : Nat → Option Nat} {g h : Nat → Nat} (hI : st_inv cI M fa g h gl_F 64) (hne : h 1 ≠ db) (h_x : M x = some (Sum.inr (5, [.ref st, .ref qu, .ref lg, .ref rd, .ref dr, .ref tp, .int 0, .int 10, .int 0, .int 1]) : va_E)) (h_st : M st = some (Sum.inr (4, [.ref sa, .int 0, .int (-1), .int 0]) : va_E)) (h_sa : M sa = some (Sum.inl (cS, 64, .inr (.inr (.inr (.inr (fa))))) : va_E)) (h_dr : M dr = some (Sum.inr (3, [.ref db, .int 0]) : va_E)) (h_db : M db = some (Sum.inl (cI, 64, .inl (fun _ => 0)) : va_E)) : Met l yX5_writeHead wsX5_writeHead ({ frames := 5, cells := 0, slots := 0, locals := 110 }) (mm_Pc D A (mm_T cI cS cB cZ) M sz [.ref x, .int 1, .int 1, .int 2]) (mm_Qi D A (fun r M1 => r = 1 ∧ ∀ q, q ≠ st → q ≠ g 1 → q ≠ h 1 → q ≠ db → M1 q = M q)) 0 0 A := by
  refine mm_met (cc := cX5_writeHead) (maxL := 6) (ret := (some .boolean)) (by decide) rfl (Nat.le_of_ble_eq_true rfl) ?_
  intro p e s m args below meth c hx hb hr hts hown hlk hin hml hsz hK hM hS ls hl
  subst hsz
  have hl : lv_has ls 6 [(0, .ref x), (1, .int 1), (2, .int 1), (3, .int 2)] := hl
  have h_g0 := (hI 0 (by decide)).2.1
  have h_h0 : _ = some (Sum.inl (cI, 64, .inl (hd_f 1 1 1 2)) : va_E) := (hI 0 (by decide)).2.2.1
  have h_g1 := (hI 1 (by decide)).2.1
  have h_h1 : _ = some (Sum.inl (cI, 64, .inl (fun _ => 0)) : va_E) := (hI 1 (by decide)).2.2.1
  refine lv_aload_n hx hb dX5_writeHead_0 rfl (lv_at hl 0 rfl) ?_
  refine mm_get (v := .ref st) (ci := 5) (C := RX5) (T := TX5) (N := 10) hx hb hts (in_X5_writeHead_X5) hown hK hM h_x rfl 0 (by decide) (hts (.fieldLink RX5 12 "GroupLog" "store" "LGroupLog$Store;") (List.mem_of_getElem? (i := 1) rfl)) rfl dX5_writeHead_1 ?_
  refine mm_calli (mm_runV (As := []) (rest := []) ⟨hx, hb, hml, hown, hts⟩ (c_X4_headVersion (hI 0 (by decide)).1 (hI 1 (by decide)).1 h_st h_sa h_g0 h_h0 h_g1 h_h1) (cwV 0 hts gX5_writeHead_X4_headVersion rfl rfl rfl (by decide +kernel) ⟨Nat.le_of_ble_eq_true rfl, Nat.le_of_ble_eq_true rfl⟩) hK hM h_st rfl rfl hl.1 rfl (Nat.le_of_ble_eq_true rfl) dX5_writeHead_4 ⟨Nat.le_of_ble_eq_true rfl, Nat.le_of_ble_eq_true rfl⟩) hS (fun _ h => h) (fun r1 M H locs hp hM hS hz _ => ?_)
  obtain ⟨rfl, hme⟩ := hp
  rw [hme] at hM
  refine lv_iconst (v := 1) hx hb dX5_writeHead_7 (by decide) ?_
  refine lv_iadd hx hb dX5_writeHead_8 ?_
  refine lv_topi (fun z2 ez2 => ?_)
  have ez2 : z2 = 2 := ez2.trans (by decide)
  subst ez2
  refine lv_istore (lv' := [(4, .int 2), (0, .ref x), (1, .int 1), (2, .int 1), (3, .int 2)]) hx hb dX5_writeHead_9 hl (by decide) rfl (fun ls hl => ?_)
  refine lv_aload_n hx hb dX5_writeHead_11 rfl (lv_at hl 1 rfl) ?_
  refine mm_get (v := .ref st) (ci := 5) (C := RX5) (T := TX5) (N := 10) hx hb hts (in_X5_writeHead_X5) hown hK hM h_x rfl 0 (by decide) (hts (.fieldLink RX5 12 "GroupLog" "store" "LGroupLog$Store;") (List.mem_of_getElem? (i := 1) rfl)) rfl dX5_writeHead_12 ?_
  refine mm_calli (mm_runV (As := []) (rest := []) ⟨hx, hb, hml, hown, hts⟩ (c_X4_latestHead (hI 0 (by decide)).1 (hI 1 (by decide)).1 h_st h_sa h_g0 h_h0 h_g1 h_h1) (cwV 0 hts gX5_writeHead_X4_latestHead rfl rfl rfl (by decide +kernel) ⟨Nat.le_of_ble_eq_true rfl, Nat.le_of_ble_eq_true rfl⟩) hK hM h_st rfl rfl hl.1 rfl (Nat.le_of_ble_eq_true rfl) dX5_writeHead_15 ⟨Nat.le_of_ble_eq_true rfl, Nat.le_of_ble_eq_true rfl⟩) hS (fun _ h => h) (fun r3 M H locs hp hM hS hz _ => ?_)
  obtain ⟨rfl, hme⟩ := hp
  rw [hme] at hM
  refine lv_if_ne (tgt := 25) hx hb dX5_writeHead_18 (by decide) (fun c_4 => ?_) (fun c_4 => ?_)
  · exact absurd c_4 (by decide)
  refine lv_iconst (v := 1) hx hb dX5_writeHead_21 (by decide) ?_
  refine lv_goto (tgt := 26) hx hb dX5_writeHead_22 (by decide) ?_
  refine lv_istore (lv' := [(5, .int 1), (4, .int 2), (0, .ref x), (1, .int 1), (2, .int 1), (3, .int 2)]) hx hb dX5_writeHead_26 hl (by decide) rfl (fun ls hl => ?_)
  refine lv_aload_n hx hb dX5_writeHead_28 rfl (lv_at hl 2 rfl) ?_
  refine mm_get (v := .ref dr) (ci := 5) (C := RX5) (T := TX5) (N := 10) hx hb hts (in_X5_writeHead_X5) hown hK hM h_x rfl 4 (by decide) (hts (.fieldLink RX5 40 "GroupLog" "draft" "LGroupLog$Sector;") (List.mem_of_getElem? (i := 2) rfl)) rfl dX5_writeHead_29 ?_
  refine lv_iload hx hb dX5_writeHead_32 (lv_at hl 1 rfl) ?_
  refine lv_iload_n hx hb dX5_writeHead_34 rfl (lv_at hl 3 rfl) ?_
  refine lv_iload_n hx hb dX5_writeHead_35 rfl (lv_at hl 4 rfl) ?_
  refine lv_iload_n hx hb dX5_writeHead_36 rfl (lv_at hl 5 rfl) ?_
  have h_dbO := h_db
  refine mm_callv (mm_runV (As := [.int 2, .int 1, .int 1, .int 2]) (rest := []) ⟨hx, hb, hml, hown, hts⟩ (c_X3_makeHead h_dr h_db) (cwV 4 hts gX5_writeHead_X3_makeHead rfl rfl rfl (by decide +kernel) ⟨Nat.le_of_ble_eq_true rfl, Nat.le_of_ble_eq_true rfl⟩) hK hM h_dr rfl rfl hl.1 rfl (Nat.le_of_ble_eq_true rfl) dX5_writeHead_37 ⟨Nat.le_of_ble_eq_true rfl, Nat.le_of_ble_eq_true rfl⟩) hS (fun _ h => h) (fun M H locs hp hM hS hz _ => ?_)
  obtain ⟨ha, ho⟩ := hp
  have h_x := (ho x (mm_ne h_x h_db mm_oa)).trans h_x
  have h_st := (ho st (mm_ne h_st h_db mm_oa)).trans h_st
  have h_sa := (ho sa (mm_ne h_sa h_db mm_qi)).trans h_sa
  have h_dr := (ho dr (mm_ne h_dr h_db mm_oa)).trans h_dr
  have h_db : _ = some (Sum.inl (cI, 64, .inl (hd_f 2 1 1 2)) : va_E) := ha
  have hg : ∀ j, j < 64 → g j ≠ db := fun j hj => mm_ne (hI j hj).2.1 h_dbO mm_oa
  have w1 : fa 1 = some (g 1) := (hI 1 (by decide)).1
  have ho0 := ho
  have h_g1 := (ho _ (hg 1 (by decide))).trans h_g1
  have h_h1 := (ho _ hne).trans h_h1
  refine lv_aload_n hx hb dX5_writeHead_40 rfl (lv_at hl 2 rfl) ?_
  refine lv_iload hx hb dX5_writeHead_41 (lv_at hl 0 rfl) ?_
  refine mm_calli (mm_runV (As := [.int 1]) (rest := []) ⟨hx, hb, hml, hown, hts⟩ (c_X5_writeDraft1 (tp := tp) (rd := rd) w1 hne h_x h_st h_sa h_dr h_db h_g1 h_h1) (cwV 1 hts gX5_writeHead_X5_writeDraft rfl rfl rfl (by decide +kernel) ⟨Nat.le_of_ble_eq_true rfl, Nat.le_of_ble_eq_true rfl⟩) hK hM h_x rfl rfl hl.1 rfl (Nat.le_of_ble_eq_true rfl) dX5_writeHead_43 ⟨Nat.le_of_ble_eq_true rfl, Nat.le_of_ble_eq_true rfl⟩) hS (fun _ h => h) (fun r5 M H locs hp hM hS hz _ => ?_)
  obtain ⟨rfl, ho⟩ := hp
  exact mm_zret hx hb hr hlk (rfl) hM hS (⟨rfl, fun q q1 q2 q3 q4 => by rw [ho q q1 q2 q3, ho0 q q4]⟩) dX5_writeHead_46

theorem in_X5_checkpoint_X0 : ∀ w ∈ u_ws RX0 TX0 8, w ∈ wsX5_checkpoint := fun w h => List.mem_cons_of_mem _ (List.mem_append_left _ (List.mem_append_left _ (List.mem_append_left _ (List.mem_append_right _ h))))
theorem in_X5_checkpoint_X5 : ∀ w ∈ u_ws RX5 TX5 10, w ∈ wsX5_checkpoint := fun w h => List.mem_cons_of_mem _ (List.mem_append_left _ (List.mem_append_left _ (List.mem_append_left _ (List.mem_append_left _ (List.mem_append_right _ h)))))
set_option maxHeartbeats 4000000 in
set_option maxRecDepth 100000 in
/-- GroupLog.checkpoint of a new object -/
theorem c_X5_checkpoint {l : Launch} {D : va_G} {A : Nat → Prop} {cI cS cB cZ : ClassId} {M : Nat → Option va_E} {sz : Nat} {x st qu lg rd dr tp sa lb db : Nat} {fa : Nat → Option Nat} {g h : Nat → Nat} (hI : st_inv cI M fa g h gl_F 64) (hne : h 1 ≠ db) {k : Int32} (h_x : M x = some (Sum.inr (5, [.ref st, .ref qu, .ref lg, .ref rd, .ref dr, .ref tp, .int 0, .int 10, .int 0, .int 1]) : va_E)) (h_st : M st = some (Sum.inr (4, [.ref sa, .int 0, .int (-1), .int 0]) : va_E)) (h_sa : M sa = some (Sum.inl (cS, 64, .inr (.inr (.inr (.inr (fa))))) : va_E)) (h_lg : M lg = some (Sum.inr (0, [.ref lb, .int 1, .int 1, .int 0, .int 2, .int 0, .int 2, .int 1]) : va_E)) (h_dr : M dr = some (Sum.inr (3, [.ref db, .int 0]) : va_E)) (h_db : M db = some (Sum.inl (cI, 64, .inl (fun _ => 0)) : va_E)) : Met l yX5_checkpoint wsX5_checkpoint ({ frames := 6, cells := 0, slots := 0, locals := 135 }) (mm_Pc D A (mm_T cI cS cB cZ) M sz [.ref x, .int k]) (mm_Qi D A (fun r M1 => r = cp_f k)) 0 0 A := by
  refine mm_met (cc := cX5_checkpoint) (maxL := 5) (ret := (some .int)) (by decide) rfl (Nat.le_of_ble_eq_true rfl) ?_
  intro p e s m args below meth c hx hb hr hts hown hlk hin hml hsz hK hM hS ls hl
  subst hsz
  have hl : lv_has ls 5 [(0, .ref x), (1, .int k)] := hl
  refine lv_aload_n hx hb dX5_checkpoint_0 rfl (lv_at hl 0 rfl) ?_
  refine mm_get (v := .int 1) (ci := 5) (C := RX5) (T := TX5) (N := 10) hx hb hts (in_X5_checkpoint_X5) hown hK hM h_x rfl 9 (by decide) (hts (.fieldLink RX5 58 "GroupLog" "on" "Z") (List.mem_of_getElem? (i := 1) rfl)) rfl dX5_checkpoint_1 ?_
  refine lv_if_ne (tgt := 10) hx hb dX5_checkpoint_4 (by decide) (fun c_1 => ?_) (fun c_1 => ?_)
  rotate_left
  · exact absurd c_1 (by decide)
  refine lv_iload_n hx hb dX5_checkpoint_10 rfl (lv_at hl 1 rfl) ?_
  refine lv_aload_n hx hb dX5_checkpoint_11 rfl (lv_at hl 0 rfl) ?_
  refine mm_get (v := .ref lg) (ci := 5) (C := RX5) (T := TX5) (N := 10) hx hb hts (in_X5_checkpoint_X5) hown hK hM h_x rfl 2 (by decide) (hts (.fieldLink RX5 26 "GroupLog" "log" "LGroupLog$Log;") (List.mem_of_getElem? (i := 2) rfl)) rfl dX5_checkpoint_12 ?_
  refine mm_getN (v := .int 1) (ci := 0) (C := RX0) (T := TX0) (N := 8) hx hb hts (in_X5_checkpoint_X0) hown hK hM h_lg rfl 2 (by decide) (hK.2.1 _ (List.mem_of_getElem? (i := 1) rfl)) rfl dX5_checkpoint_15 ?_
  refine lv_icmp_lt (tgt := 34) hx hb dX5_checkpoint_18 (by decide) (fun c_2 => ?_) (fun c_2 => ?_)
  · skip
    refine lv_iconst (v := (-1)) hx hb dX5_checkpoint_34 (by decide) ?_
    exact mm_iret hx hb hr hlk hM hS (cp_lo c_2) dX5_checkpoint_35
  · skip
    refine lv_iload_n hx hb dX5_checkpoint_21 rfl (lv_at hl 1 rfl) ?_
    refine lv_aload_n hx hb dX5_checkpoint_22 rfl (lv_at hl 0 rfl) ?_
    refine mm_get (v := .ref lg) (ci := 5) (C := RX5) (T := TX5) (N := 10) hx hb hts (in_X5_checkpoint_X5) hown hK hM h_x rfl 2 (by decide) (hts (.fieldLink RX5 26 "GroupLog" "log" "LGroupLog$Log;") (List.mem_of_getElem? (i := 2) rfl)) rfl dX5_checkpoint_23 ?_
    refine mm_getN (v := .int 0) (ci := 0) (C := RX0) (T := TX0) (N := 8) hx hb hts (in_X5_checkpoint_X0) hown hK hM h_lg rfl 3 (by decide) (hK.2.1 _ (List.mem_of_getElem? (i := 10) rfl)) rfl dX5_checkpoint_26 ?_
    refine lv_iconst (v := 1) hx hb dX5_checkpoint_29 (by decide) ?_
    refine lv_iadd hx hb dX5_checkpoint_30 ?_
    refine lv_topi (fun z3 ez3 => ?_)
    have ez3 : z3 = 1 := ez3.trans (by decide)
    subst ez3
    refine lv_icmp_le (tgt := 36) hx hb dX5_checkpoint_31 (by decide) (fun c_4 => ?_) (fun c_4 => ?_)
    · skip
      obtain rfl := cp_eq c_2 c_4
      refine lv_aload_n hx hb dX5_checkpoint_36 rfl (lv_at hl 0 rfl) ?_
      refine mm_get (v := .ref lg) (ci := 5) (C := RX5) (T := TX5) (N := 10) hx hb hts (in_X5_checkpoint_X5) hown hK hM h_x rfl 2 (by decide) (hts (.fieldLink RX5 26 "GroupLog" "log" "LGroupLog$Log;") (List.mem_of_getElem? (i := 2) rfl)) rfl dX5_checkpoint_37 ?_
      refine lv_iload_n hx hb dX5_checkpoint_40 rfl (lv_at hl 1 rfl) ?_
      refine mm_calli (mm_runV (As := [.int 1]) (rest := []) ⟨hx, hb, hml, hown, hts⟩ (c_X0_placeOf h_lg) (cwV 1 hts gX5_checkpoint_X0_placeOf rfl rfl rfl (by decide +kernel) ⟨Nat.le_of_ble_eq_true rfl, Nat.le_of_ble_eq_true rfl⟩) hK hM h_lg rfl rfl hl.1 rfl (Nat.le_of_ble_eq_true rfl) dX5_checkpoint_41 ⟨Nat.le_of_ble_eq_true rfl, Nat.le_of_ble_eq_true rfl⟩) hS (fun _ h => h) (fun r5 M H locs hp hM hS hz _ => ?_)
      obtain ⟨rfl, hme⟩ := hp
      rw [hme] at hM
      refine lv_istore_n (lv' := [(2, .int 2), (0, .ref x), (1, .int 1)]) hx hb dX5_checkpoint_44 rfl hl (by decide) rfl (fun ls hl => ?_)
      refine lv_aload_n hx hb dX5_checkpoint_45 rfl (lv_at hl 1 rfl) ?_
      refine mm_get (v := .ref lg) (ci := 5) (C := RX5) (T := TX5) (N := 10) hx hb hts (in_X5_checkpoint_X5) hown hK hM h_x rfl 2 (by decide) (hts (.fieldLink RX5 26 "GroupLog" "log" "LGroupLog$Log;") (List.mem_of_getElem? (i := 2) rfl)) rfl dX5_checkpoint_46 ?_
      refine lv_iload_n hx hb dX5_checkpoint_49 rfl (lv_at hl 2 rfl) ?_
      refine mm_calli (mm_runV (As := [.int 1]) (rest := []) ⟨hx, hb, hml, hown, hts⟩ (c_X0_firstBeginningWith h_lg) (cwV 1 hts gX5_checkpoint_X0_firstBeginningWith rfl rfl rfl (by decide +kernel) ⟨Nat.le_of_ble_eq_true rfl, Nat.le_of_ble_eq_true rfl⟩) hK hM h_lg rfl rfl hl.1 rfl (Nat.le_of_ble_eq_true rfl) dX5_checkpoint_50 ⟨Nat.le_of_ble_eq_true rfl, Nat.le_of_ble_eq_true rfl⟩) hS (fun _ h => h) (fun r6 M H locs hp hM hS hz _ => ?_)
      obtain ⟨rfl, hme⟩ := hp
      rw [hme] at hM
      refine lv_istore_n (lv' := [(3, .int 1), (2, .int 2), (0, .ref x), (1, .int 1)]) hx hb dX5_checkpoint_53 rfl hl (by decide) rfl (fun ls hl => ?_)
      refine lv_iload_n hx hb dX5_checkpoint_54 rfl (lv_at hl 3 rfl) ?_
      refine lv_aload_n hx hb dX5_checkpoint_55 rfl (lv_at hl 2 rfl) ?_
      refine mm_get (v := .ref lg) (ci := 5) (C := RX5) (T := TX5) (N := 10) hx hb hts (in_X5_checkpoint_X5) hown hK hM h_x rfl 2 (by decide) (hts (.fieldLink RX5 26 "GroupLog" "log" "LGroupLog$Log;") (List.mem_of_getElem? (i := 2) rfl)) rfl dX5_checkpoint_56 ?_
      refine mm_getN (v := .int 0) (ci := 0) (C := RX0) (T := TX0) (N := 8) hx hb hts (in_X5_checkpoint_X0) hown hK hM h_lg rfl 3 (by decide) (hK.2.1 _ (List.mem_of_getElem? (i := 10) rfl)) rfl dX5_checkpoint_59 ?_
      refine lv_icmp_le (tgt := 75) hx hb dX5_checkpoint_62 (by decide) (fun c_7 => ?_) (fun c_7 => ?_)
      · exact absurd c_7 (by decide)
      refine lv_aload_n hx hb dX5_checkpoint_65 rfl (lv_at hl 2 rfl) ?_
      refine mm_get (v := .ref lg) (ci := 5) (C := RX5) (T := TX5) (N := 10) hx hb hts (in_X5_checkpoint_X5) hown hK hM h_x rfl 2 (by decide) (hts (.fieldLink RX5 26 "GroupLog" "log" "LGroupLog$Log;") (List.mem_of_getElem? (i := 2) rfl)) rfl dX5_checkpoint_66 ?_
      refine mm_getN (v := .int 1) (ci := 0) (C := RX0) (T := TX0) (N := 8) hx hb hts (in_X5_checkpoint_X0) hown hK hM h_lg rfl 7 (by decide) (hK.2.1 _ (List.mem_of_getElem? (i := 2) rfl)) rfl dX5_checkpoint_69 ?_
      refine lv_goto (tgt := 86) hx hb dX5_checkpoint_72 (by decide) ?_
      refine lv_istore (lv' := [(4, .int 1), (3, .int 1), (2, .int 2), (0, .ref x), (1, .int 1)]) hx hb dX5_checkpoint_86 hl (by decide) rfl (fun ls hl => ?_)
      refine lv_aload_n hx hb dX5_checkpoint_88 rfl (lv_at hl 3 rfl) ?_
      refine lv_iload hx hb dX5_checkpoint_89 (lv_at hl 0 rfl) ?_
      refine lv_iload_n hx hb dX5_checkpoint_91 rfl (lv_at hl 1 rfl) ?_
      refine lv_iload_n hx hb dX5_checkpoint_92 rfl (lv_at hl 2 rfl) ?_
      have h_g1 := (hI 1 (by decide)).2.1
      have h_h1 := (hI 1 (by decide)).2.2.1
      refine mm_calli (mm_runV (As := [.int 1, .int 1, .int 2]) (rest := []) ⟨hx, hb, hml, hown, hts⟩ (c_X5_writeHead (tp := tp) (rd := rd) hI hne h_x h_st h_sa h_dr h_db) (cwV 3 hts gX5_checkpoint_X5_writeHead rfl rfl rfl (by decide +kernel) ⟨Nat.le_of_ble_eq_true rfl, Nat.le_of_ble_eq_true rfl⟩) hK hM h_x rfl rfl hl.1 rfl (Nat.le_of_ble_eq_true rfl) dX5_checkpoint_93 ⟨Nat.le_of_ble_eq_true rfl, Nat.le_of_ble_eq_true rfl⟩) hS (fun _ h => h) (fun r8 M H locs hp hM hS hz _ => ?_)
      obtain ⟨rfl, ho⟩ := hp
      have h_x := (ho x (mm_ne h_x h_st (mm_oo (by decide))) (mm_ne h_x h_g1 (mm_oo (by decide))) (mm_ne h_x h_h1 mm_oa) (mm_ne h_x h_db mm_oa)).trans h_x
      have h_lg := (ho lg (mm_ne h_lg h_st (mm_oo (by decide))) (mm_ne h_lg h_g1 (mm_oo (by decide))) (mm_ne h_lg h_h1 mm_oa) (mm_ne h_lg h_db mm_oa)).trans h_lg
      refine lv_if_ne (tgt := 102) hx hb dX5_checkpoint_96 (by decide) (fun c_9 => ?_) (fun c_9 => ?_)
      rotate_left
      · exact absurd c_9 (by decide)
      refine lv_aload_n hx hb dX5_checkpoint_102 rfl (lv_at hl 3 rfl) ?_
      refine mm_get (v := .ref lg) (ci := 5) (C := RX5) (T := TX5) (N := 10) hx hb hts (in_X5_checkpoint_X5) hown hK hM h_x rfl 2 (by decide) (hts (.fieldLink RX5 26 "GroupLog" "log" "LGroupLog$Log;") (List.mem_of_getElem? (i := 2) rfl)) rfl dX5_checkpoint_103 ?_
      refine lv_iload_n hx hb dX5_checkpoint_106 rfl (lv_at hl 4 rfl) ?_
      refine lv_iload_n hx hb dX5_checkpoint_107 rfl (lv_at hl 1 rfl) ?_
      refine lv_iload_n hx hb dX5_checkpoint_108 rfl (lv_at hl 2 rfl) ?_
      refine mm_calli (mm_runV (As := [.int 1, .int 1, .int 2]) (rest := []) ⟨hx, hb, hml, hown, hts⟩ (c_X0_giveUpBefore h_lg) (cwV 3 hts gX5_checkpoint_X0_giveUpBefore rfl rfl rfl (by decide +kernel) ⟨Nat.le_of_ble_eq_true rfl, Nat.le_of_ble_eq_true rfl⟩) hK hM h_lg rfl rfl hl.1 rfl (Nat.le_of_ble_eq_true rfl) dX5_checkpoint_109 ⟨Nat.le_of_ble_eq_true rfl, Nat.le_of_ble_eq_true rfl⟩) hS (fun _ h => h) (fun r10 M H locs hp hM hS hz _ => ?_)
      subst hp
      exact mm_iret hx hb hr hlk hM hS (rfl) dX5_checkpoint_112
    · skip
      refine lv_iconst (v := (-1)) hx hb dX5_checkpoint_34 (by decide) ?_
      exact mm_iret hx hb hr hlk hM hS (cp_hi c_4) dX5_checkpoint_35

theorem in_X5_disk_X5 : ∀ w ∈ u_ws RX5 TX5 10, w ∈ wsX5_disk := fun w h => List.mem_cons_of_mem _ (List.mem_append_left _ (List.mem_append_left _ (List.mem_append_right _ h)))
set_option maxHeartbeats 4000000 in
set_option maxRecDepth 100000 in
/-- GroupLog.disk of a new object -/
theorem c_X5_disk {l : Launch} {D : va_G} {A : Nat → Prop} {cI cS cB cZ : ClassId} {M : Nat → Option va_E} {sz : Nat} {x st qu lg rd dr tp sa : Nat} {fa : Nat → Option Nat} {g h : Nat → Nat} (hI : st_inv cI M fa g h gl_F 64) {k i : Int32} (h_x : M x = some (Sum.inr (5, [.ref st, .ref qu, .ref lg, .ref rd, .ref dr, .ref tp, .int 0, .int 10, .int 0, .int 1]) : va_E)) (h_st : M st = some (Sum.inr (4, [.ref sa, .int 0, .int (-1), .int 0]) : va_E)) (h_sa : M sa = some (Sum.inl (cS, 64, .inr (.inr (.inr (.inr (fa))))) : va_E)) : Met l yX5_disk wsX5_disk ({ frames := 1, cells := 0, slots := 0, locals := 21 }) (mm_Pc D A (mm_T cI cS cB cZ) M sz [.ref x, .int k, .int i]) (mm_Qi D A (fun r M1 => r = dk_f k i)) 0 0 A := by
  refine mm_met (cc := cX5_disk) (maxL := 3) (ret := (some .int)) (by decide) rfl (Nat.le_of_ble_eq_true rfl) ?_
  intro p e s m args below meth c hx hb hr hts hown hlk hin hml hsz hK hM hS ls hl
  subst hsz
  have hl : lv_has ls 3 [(0, .ref x), (1, .int k), (2, .int i)] := hl
  refine lv_iload_n hx hb dX5_disk_0 rfl (lv_at hl 1 rfl) ?_
  refine lv_iload_n hx hb dX5_disk_1 rfl (lv_at hl 2 rfl) ?_
  refine mm_calli (mm_runS (As := [.int k, .int i]) (rest := []) ⟨hx, hb, hml, hown, hts⟩ (c_X5_isByte ) (va_cwS 2 hts gX5_disk_X5_isByte rfl rfl rfl (by decide +kernel) ⟨Nat.le_of_ble_eq_true rfl, Nat.le_of_ble_eq_true rfl⟩) hK hM rfl hl.1 rfl (Nat.le_of_ble_eq_true rfl) dX5_disk_2 ⟨Nat.le_of_ble_eq_true rfl, Nat.le_of_ble_eq_true rfl⟩) hS (fun _ h => h) (fun r1 M H locs hp hM hS hz _ => ?_)
  obtain ⟨rfl, hme⟩ := hp
  rw [hme] at hM
  refine lv_if_eq (tgt := 23) hx hb dX5_disk_5 (by decide) (fun c_2 => ?_) (fun c_2 => ?_)
  · skip
    refine lv_iconst (v := (-1)) hx hb dX5_disk_23 (by decide) ?_
    exact mm_iret hx hb hr hlk hM hS (dk_no c_2) dX5_disk_24
  · skip
    obtain ⟨j, n, hj, hn, e1, e2⟩ := ib_1 c_2
    refine lv_aload_n hx hb dX5_disk_8 rfl (lv_at hl 0 rfl) ?_
    refine mm_get (v := .ref st) (ci := 5) (C := RX5) (T := TX5) (N := 10) hx hb hts (in_X5_disk_X5) hown hK hM h_x rfl 0 (by decide) (hts (.fieldLink RX5 12 "GroupLog" "store" "LGroupLog$Store;") (List.mem_of_getElem? (i := 1) rfl)) rfl dX5_disk_9 ?_
    refine lv_iload_n hx hb dX5_disk_12 rfl (lv_at hl 1 rfl) ?_
    refine mm_callr (mm_runV (As := [.int k]) (rest := []) ⟨hx, hb, hml, hown, hts⟩ (c_X4_sector j e1 hj (hI j hj).1 h_st h_sa) (cwV 1 hts gX5_disk_X4_sector rfl rfl rfl (by decide +kernel) ⟨Nat.le_of_ble_eq_true rfl, Nat.le_of_ble_eq_true rfl⟩) hK hM h_st rfl rfl hl.1 rfl (Nat.le_of_ble_eq_true rfl) dX5_disk_13 ⟨Nat.le_of_ble_eq_true rfl, Nat.le_of_ble_eq_true rfl⟩) hS (fun _ h => h) (fun r3 M H locs hp hM hS hz _ => ?_)
    obtain ⟨rfl, hme⟩ := hp
    rw [hme] at hM
    have h_gj := (hI j hj).2.1
    have h_hj := (hI j hj).2.2.1
    refine lv_iload_n hx hb dX5_disk_16 rfl (lv_at hl 2 rfl) ?_
    refine mm_calli (mm_runV (As := [.int i]) (rest := []) ⟨hx, hb, hml, hown, hts⟩ (c_X3_get n e2 hn h_gj h_hj) (cwV 1 hts gX5_disk_X3_get rfl rfl rfl (by decide +kernel) ⟨Nat.le_of_ble_eq_true rfl, Nat.le_of_ble_eq_true rfl⟩) hK hM h_gj rfl rfl hl.1 rfl (Nat.le_of_ble_eq_true rfl) dX5_disk_17 ⟨Nat.le_of_ble_eq_true rfl, Nat.le_of_ble_eq_true rfl⟩) hS (fun _ h => h) (fun r4 M H locs hp hM hS hz _ => ?_)
    obtain ⟨rfl, hme⟩ := hp
    rw [hme] at hM
    refine lv_goto (tgt := 24) hx hb dX5_disk_20 (by decide) ?_
    exact mm_iret hx hb hr hlk hM hS (dk_yes c_2 hj hn e1 e2) dX5_disk_24

theorem in_X5_torn_X3 : ∀ w ∈ u_ws RX3 TX3 2, w ∈ wsX5_torn := fun w h => List.mem_cons_of_mem _ (List.mem_append_left _ (List.mem_append_right _ h))
theorem in_X5_torn_X5 : ∀ w ∈ u_ws RX5 TX5 10, w ∈ wsX5_torn := fun w h => List.mem_cons_of_mem _ (List.mem_append_left _ (List.mem_append_left _ (List.mem_append_right _ h)))
set_option maxHeartbeats 4000000 in
set_option maxRecDepth 100000 in
/-- GroupLog.torn of a new object -/
theorem c_X5_torn {l : Launch} {D : va_G} {A : Nat → Prop} {cI cS cB cZ : ClassId} {M : Nat → Option va_E} {sz : Nat} {x st qu lg rd dr tp sa : Nat} {fa : Nat → Option Nat} {g h : Nat → Nat} (hI : st_inv cI M fa g h gl_F 64) {k : Int32} (h_x : M x = some (Sum.inr (5, [.ref st, .ref qu, .ref lg, .ref rd, .ref dr, .ref tp, .int 0, .int 10, .int 0, .int 1]) : va_E)) (h_st : M st = some (Sum.inr (4, [.ref sa, .int 0, .int (-1), .int 0]) : va_E)) (h_sa : M sa = some (Sum.inl (cS, 64, .inr (.inr (.inr (.inr (fa))))) : va_E)) : Met l yX5_torn wsX5_torn ({ frames := 1, cells := 0, slots := 0, locals := 21 }) (mm_Pc D A (mm_T cI cS cB cZ) M sz [.ref x, .int k]) (mm_Qi D A (fun r M1 => r = 0)) 0 0 A := by
  refine mm_met (cc := cX5_torn) (maxL := 2) (ret := (some .boolean)) (by decide) rfl (Nat.le_of_ble_eq_true rfl) ?_
  intro p e s m args below meth c hx hb hr hts hown hlk hin hml hsz hK hM hS ls hl
  subst hsz
  have hl : lv_has ls 2 [(0, .ref x), (1, .int k)] := hl
  refine lv_iload_n hx hb dX5_torn_0 rfl (lv_at hl 1 rfl) ?_
  refine lv_iconst (v := 0) hx hb dX5_torn_1 (by decide) ?_
  refine mm_calli (mm_runS (As := [.int k, .int 0]) (rest := []) ⟨hx, hb, hml, hown, hts⟩ (c_X5_isByte ) (va_cwS 2 hts gX5_torn_X5_isByte rfl rfl rfl (by decide +kernel) ⟨Nat.le_of_ble_eq_true rfl, Nat.le_of_ble_eq_true rfl⟩) hK hM rfl hl.1 rfl (Nat.le_of_ble_eq_true rfl) dX5_torn_2 ⟨Nat.le_of_ble_eq_true rfl, Nat.le_of_ble_eq_true rfl⟩) hS (fun _ h => h) (fun r1 M H locs hp hM hS hz _ => ?_)
  obtain ⟨rfl, hme⟩ := hp
  rw [hme] at hM
  refine lv_if_eq (tgt := 26) hx hb dX5_torn_5 (by decide) (fun c_2 => ?_) (fun c_2 => ?_)
  · skip
    refine lv_iconst (v := 0) hx hb dX5_torn_26 (by decide) ?_
    exact mm_zret hx hb hr hlk (rfl) hM hS (rfl) dX5_torn_27
  · skip
    obtain ⟨j, n, hj, hn, e1, e2⟩ := ib_1 c_2
    refine lv_aload_n hx hb dX5_torn_8 rfl (lv_at hl 0 rfl) ?_
    refine mm_get (v := .ref st) (ci := 5) (C := RX5) (T := TX5) (N := 10) hx hb hts (in_X5_torn_X5) hown hK hM h_x rfl 0 (by decide) (hts (.fieldLink RX5 12 "GroupLog" "store" "LGroupLog$Store;") (List.mem_of_getElem? (i := 1) rfl)) rfl dX5_torn_9 ?_
    refine lv_iload_n hx hb dX5_torn_12 rfl (lv_at hl 1 rfl) ?_
    refine mm_callr (mm_runV (As := [.int k]) (rest := []) ⟨hx, hb, hml, hown, hts⟩ (c_X4_sector j e1 hj (hI j hj).1 h_st h_sa) (cwV 1 hts gX5_torn_X4_sector rfl rfl rfl (by decide +kernel) ⟨Nat.le_of_ble_eq_true rfl, Nat.le_of_ble_eq_true rfl⟩) hK hM h_st rfl rfl hl.1 rfl (Nat.le_of_ble_eq_true rfl) dX5_torn_13 ⟨Nat.le_of_ble_eq_true rfl, Nat.le_of_ble_eq_true rfl⟩) hS (fun _ h => h) (fun r3 M H locs hp hM hS hz _ => ?_)
    obtain ⟨rfl, hme⟩ := hp
    rw [hme] at hM
    have h_gj := (hI j hj).2.1
    refine mm_getN (v := .int 0) (ci := 3) (C := RX3) (T := TX3) (N := 2) hx hb hts (in_X5_torn_X3) hown hK hM h_gj rfl 1 (by decide) (hK.2.1 _ (List.mem_of_getElem? (i := 6) rfl)) rfl dX5_torn_16 ?_
    refine lv_if_eq (tgt := 26) hx hb dX5_torn_19 (by decide) (fun c_4 => ?_) (fun c_4 => ?_)
    rotate_left
    · exact absurd c_4 (by decide)
    refine lv_iconst (v := 0) hx hb dX5_torn_26 (by decide) ?_
    exact mm_zret hx hb hr hlk (rfl) hM hS (rfl) dX5_torn_27

theorem in_X5_countWhileOn_X1 : ∀ w ∈ u_ws RX1 TX1 4, w ∈ wsX5_countWhileOn := fun w h => List.mem_cons_of_mem _ (List.mem_append_left _ (List.mem_append_left _ (List.mem_append_left _ (List.mem_append_right _ h))))
theorem in_X5_countWhileOn_X5 : ∀ w ∈ u_ws RX5 TX5 10, w ∈ wsX5_countWhileOn := fun w h => List.mem_cons_of_mem _ (List.mem_append_left _ (List.mem_append_left _ (List.mem_append_left _ (List.mem_append_left _ (List.mem_append_right _ h)))))
set_option maxHeartbeats 4000000 in
set_option maxRecDepth 100000 in
theorem c_X5_cwo_1 {l : Launch} {D : va_G} {A : Nat → Prop} {cI cS cB cZ : ClassId} {M : Nat → Option va_E} {sz : Nat} {x st qu lg rd dr tp sa qb lb : Nat} {fa : Nat → Option Nat} {g h : Nat → Nat} (hI : st_inv cI M fa g h gl_F 64) (h_x : M x = some (Sum.inr (5, [.ref st, .ref qu, .ref lg, .ref rd, .ref dr, .ref tp, .int 0, .int 10, .int 0, .int 1]) : va_E)) (h_st : M st = some (Sum.inr (4, [.ref sa, .int 0, .int (-1), .int 0]) : va_E)) (h_sa : M sa = some (Sum.inl (cS, 64, .inr (.inr (.inr (.inr (fa))))) : va_E)) (h_qu : M qu = some (Sum.inr (1, [.ref qb, .int 0, .int 0, .int 0]) : va_E)) (h_lg : M lg = some (Sum.inr (0, [.ref lb, .int 1, .int 1, .int 0, .int 2, .int 0, .int 2, .int 1]) : va_E)) : Met l yX5_countWhileOn wsX5_countWhileOn ({ frames := 0, cells := 0, slots := 0, locals := 0 }) (mm_Pc D A (mm_T cI cS cB cZ) M sz [.ref x, .int 1]) (mm_Qi D A (fun r M1 => r = 0)) 0 0 A := by
  refine mm_met (cc := cX5_countWhileOn) (maxL := 2) (ret := (some .int)) (by decide) rfl (Nat.le_of_ble_eq_true rfl) ?_
  intro p e s m args below meth c hx hb hr hts hown hlk hin hml hsz hK hM hS ls hl
  subst hsz
  have hl : lv_has ls 2 [(0, .ref x), (1, .int 1)] := hl
  refine lv_iload_n hx hb dX5_countWhileOn_0 rfl (lv_at hl 1 rfl) ?_
  refine lv_tableIn (off := 47) (tgt := 48) hx hb dX5_countWhileOn_1 (by decide) (by decide) (by decide) (by decide) ?_
  refine lv_aload_n hx hb dX5_countWhileOn_48 rfl (lv_at hl 0 rfl) ?_
  refine mm_get (v := .ref qu) (ci := 5) (C := RX5) (T := TX5) (N := 10) hx hb hts (in_X5_countWhileOn_X5) hown hK hM h_x rfl 1 (by decide) (hts (.fieldLink RX5 19 "GroupLog" "queue" "LGroupLog$Queue;") (List.mem_of_getElem? (i := 1) rfl)) rfl dX5_countWhileOn_49 ?_
  refine mm_getN (v := .int 0) (ci := 1) (C := RX1) (T := TX1) (N := 4) hx hb hts (in_X5_countWhileOn_X1) hown hK hM h_qu rfl 2 (by decide) (hK.2.1 _ (List.mem_of_getElem? (i := 11) rfl)) rfl dX5_countWhileOn_52 ?_
  exact mm_iret hx hb hr hlk hM hS (rfl) dX5_countWhileOn_55

set_option maxHeartbeats 4000000 in
set_option maxRecDepth 100000 in
theorem c_X5_cwo_2 {l : Launch} {D : va_G} {A : Nat → Prop} {cI cS cB cZ : ClassId} {M : Nat → Option va_E} {sz : Nat} {x st qu lg rd dr tp sa qb lb : Nat} {fa : Nat → Option Nat} {g h : Nat → Nat} (hI : st_inv cI M fa g h gl_F 64) (h_x : M x = some (Sum.inr (5, [.ref st, .ref qu, .ref lg, .ref rd, .ref dr, .ref tp, .int 0, .int 10, .int 0, .int 1]) : va_E)) (h_st : M st = some (Sum.inr (4, [.ref sa, .int 0, .int (-1), .int 0]) : va_E)) (h_sa : M sa = some (Sum.inl (cS, 64, .inr (.inr (.inr (.inr (fa))))) : va_E)) (h_qu : M qu = some (Sum.inr (1, [.ref qb, .int 0, .int 0, .int 0]) : va_E)) (h_lg : M lg = some (Sum.inr (0, [.ref lb, .int 1, .int 1, .int 0, .int 2, .int 0, .int 2, .int 1]) : va_E)) : Met l yX5_countWhileOn wsX5_countWhileOn ({ frames := 0, cells := 0, slots := 0, locals := 0 }) (mm_Pc D A (mm_T cI cS cB cZ) M sz [.ref x, .int 2]) (mm_Qi D A (fun r M1 => r = 0)) 0 0 A := by
  refine mm_met (cc := cX5_countWhileOn) (maxL := 2) (ret := (some .int)) (by decide) rfl (Nat.le_of_ble_eq_true rfl) ?_
  intro p e s m args below meth c hx hb hr hts hown hlk hin hml hsz hK hM hS ls hl
  subst hsz
  have hl : lv_has ls 2 [(0, .ref x), (1, .int 2)] := hl
  refine lv_iload_n hx hb dX5_countWhileOn_0 rfl (lv_at hl 1 rfl) ?_
  refine lv_tableIn (off := 55) (tgt := 56) hx hb dX5_countWhileOn_1 (by decide) (by decide) (by decide) (by decide) ?_
  refine lv_aload_n hx hb dX5_countWhileOn_56 rfl (lv_at hl 0 rfl) ?_
  refine mm_get (v := .ref qu) (ci := 5) (C := RX5) (T := TX5) (N := 10) hx hb hts (in_X5_countWhileOn_X5) hown hK hM h_x rfl 1 (by decide) (hts (.fieldLink RX5 19 "GroupLog" "queue" "LGroupLog$Queue;") (List.mem_of_getElem? (i := 1) rfl)) rfl dX5_countWhileOn_57 ?_
  refine mm_getN (v := .int 0) (ci := 1) (C := RX1) (T := TX1) (N := 4) hx hb hts (in_X5_countWhileOn_X1) hown hK hM h_qu rfl 1 (by decide) (hK.2.1 _ (List.mem_of_getElem? (i := 12) rfl)) rfl dX5_countWhileOn_60 ?_
  exact mm_iret hx hb hr hlk hM hS (rfl) dX5_countWhileOn_63

theorem in_X5_countWhileOn_X0 : ∀ w ∈ u_ws RX0 TX0 8, w ∈ wsX5_countWhileOn := fun w h => List.mem_cons_of_mem _ (List.mem_append_left _ (List.mem_append_left _ (List.mem_append_right _ h)))
set_option maxHeartbeats 4000000 in
set_option maxRecDepth 100000 in
theorem c_X5_cwo_3 {l : Launch} {D : va_G} {A : Nat → Prop} {cI cS cB cZ : ClassId} {M : Nat → Option va_E} {sz : Nat} {x st qu lg rd dr tp sa qb lb : Nat} {fa : Nat → Option Nat} {g h : Nat → Nat} (hI : st_inv cI M fa g h gl_F 64) (h_x : M x = some (Sum.inr (5, [.ref st, .ref qu, .ref lg, .ref rd, .ref dr, .ref tp, .int 0, .int 10, .int 0, .int 1]) : va_E)) (h_st : M st = some (Sum.inr (4, [.ref sa, .int 0, .int (-1), .int 0]) : va_E)) (h_sa : M sa = some (Sum.inl (cS, 64, .inr (.inr (.inr (.inr (fa))))) : va_E)) (h_qu : M qu = some (Sum.inr (1, [.ref qb, .int 0, .int 0, .int 0]) : va_E)) (h_lg : M lg = some (Sum.inr (0, [.ref lb, .int 1, .int 1, .int 0, .int 2, .int 0, .int 2, .int 1]) : va_E)) : Met l yX5_countWhileOn wsX5_countWhileOn ({ frames := 0, cells := 0, slots := 0, locals := 0 }) (mm_Pc D A (mm_T cI cS cB cZ) M sz [.ref x, .int 3]) (mm_Qi D A (fun r M1 => r = 0)) 0 0 A := by
  refine mm_met (cc := cX5_countWhileOn) (maxL := 2) (ret := (some .int)) (by decide) rfl (Nat.le_of_ble_eq_true rfl) ?_
  intro p e s m args below meth c hx hb hr hts hown hlk hin hml hsz hK hM hS ls hl
  subst hsz
  have hl : lv_has ls 2 [(0, .ref x), (1, .int 3)] := hl
  refine lv_iload_n hx hb dX5_countWhileOn_0 rfl (lv_at hl 1 rfl) ?_
  refine lv_tableIn (off := 63) (tgt := 64) hx hb dX5_countWhileOn_1 (by decide) (by decide) (by decide) (by decide) ?_
  refine lv_aload_n hx hb dX5_countWhileOn_64 rfl (lv_at hl 0 rfl) ?_
  refine mm_get (v := .ref lg) (ci := 5) (C := RX5) (T := TX5) (N := 10) hx hb hts (in_X5_countWhileOn_X5) hown hK hM h_x rfl 2 (by decide) (hts (.fieldLink RX5 26 "GroupLog" "log" "LGroupLog$Log;") (List.mem_of_getElem? (i := 2) rfl)) rfl dX5_countWhileOn_65 ?_
  refine mm_getN (v := .int 0) (ci := 0) (C := RX0) (T := TX0) (N := 8) hx hb hts (in_X5_countWhileOn_X0) hown hK hM h_lg rfl 5 (by decide) (hK.2.1 _ (List.mem_of_getElem? (i := 9) rfl)) rfl dX5_countWhileOn_68 ?_
  exact mm_iret hx hb hr hlk hM hS (rfl) dX5_countWhileOn_71

set_option maxHeartbeats 4000000 in
set_option maxRecDepth 100000 in
theorem c_X5_cwo_4 {l : Launch} {D : va_G} {A : Nat → Prop} {cI cS cB cZ : ClassId} {M : Nat → Option va_E} {sz : Nat} {x st qu lg rd dr tp sa qb lb : Nat} {fa : Nat → Option Nat} {g h : Nat → Nat} (hI : st_inv cI M fa g h gl_F 64) (h_x : M x = some (Sum.inr (5, [.ref st, .ref qu, .ref lg, .ref rd, .ref dr, .ref tp, .int 0, .int 10, .int 0, .int 1]) : va_E)) (h_st : M st = some (Sum.inr (4, [.ref sa, .int 0, .int (-1), .int 0]) : va_E)) (h_sa : M sa = some (Sum.inl (cS, 64, .inr (.inr (.inr (.inr (fa))))) : va_E)) (h_qu : M qu = some (Sum.inr (1, [.ref qb, .int 0, .int 0, .int 0]) : va_E)) (h_lg : M lg = some (Sum.inr (0, [.ref lb, .int 1, .int 1, .int 0, .int 2, .int 0, .int 2, .int 1]) : va_E)) : Met l yX5_countWhileOn wsX5_countWhileOn ({ frames := 0, cells := 0, slots := 0, locals := 0 }) (mm_Pc D A (mm_T cI cS cB cZ) M sz [.ref x, .int 4]) (mm_Qi D A (fun r M1 => r = 2)) 0 0 A := by
  refine mm_met (cc := cX5_countWhileOn) (maxL := 2) (ret := (some .int)) (by decide) rfl (Nat.le_of_ble_eq_true rfl) ?_
  intro p e s m args below meth c hx hb hr hts hown hlk hin hml hsz hK hM hS ls hl
  subst hsz
  have hl : lv_has ls 2 [(0, .ref x), (1, .int 4)] := hl
  refine lv_iload_n hx hb dX5_countWhileOn_0 rfl (lv_at hl 1 rfl) ?_
  refine lv_tableIn (off := 71) (tgt := 72) hx hb dX5_countWhileOn_1 (by decide) (by decide) (by decide) (by decide) ?_
  refine lv_aload_n hx hb dX5_countWhileOn_72 rfl (lv_at hl 0 rfl) ?_
  refine mm_get (v := .ref lg) (ci := 5) (C := RX5) (T := TX5) (N := 10) hx hb hts (in_X5_countWhileOn_X5) hown hK hM h_x rfl 2 (by decide) (hts (.fieldLink RX5 26 "GroupLog" "log" "LGroupLog$Log;") (List.mem_of_getElem? (i := 2) rfl)) rfl dX5_countWhileOn_73 ?_
  refine mm_getN (v := .int 2) (ci := 0) (C := RX0) (T := TX0) (N := 8) hx hb hts (in_X5_countWhileOn_X0) hown hK hM h_lg rfl 6 (by decide) (hK.2.1 _ (List.mem_of_getElem? (i := 8) rfl)) rfl dX5_countWhileOn_76 ?_
  exact mm_iret hx hb hr hlk hM hS (rfl) dX5_countWhileOn_79

set_option maxHeartbeats 4000000 in
set_option maxRecDepth 100000 in
theorem c_X5_cwo_5 {l : Launch} {D : va_G} {A : Nat → Prop} {cI cS cB cZ : ClassId} {M : Nat → Option va_E} {sz : Nat} {x st qu lg rd dr tp sa qb lb : Nat} {fa : Nat → Option Nat} {g h : Nat → Nat} (hI : st_inv cI M fa g h gl_F 64) (h_x : M x = some (Sum.inr (5, [.ref st, .ref qu, .ref lg, .ref rd, .ref dr, .ref tp, .int 0, .int 10, .int 0, .int 1]) : va_E)) (h_st : M st = some (Sum.inr (4, [.ref sa, .int 0, .int (-1), .int 0]) : va_E)) (h_sa : M sa = some (Sum.inl (cS, 64, .inr (.inr (.inr (.inr (fa))))) : va_E)) (h_qu : M qu = some (Sum.inr (1, [.ref qb, .int 0, .int 0, .int 0]) : va_E)) (h_lg : M lg = some (Sum.inr (0, [.ref lb, .int 1, .int 1, .int 0, .int 2, .int 0, .int 2, .int 1]) : va_E)) : Met l yX5_countWhileOn wsX5_countWhileOn ({ frames := 0, cells := 0, slots := 0, locals := 0 }) (mm_Pc D A (mm_T cI cS cB cZ) M sz [.ref x, .int 5]) (mm_Qi D A (fun r M1 => r = 1)) 0 0 A := by
  refine mm_met (cc := cX5_countWhileOn) (maxL := 2) (ret := (some .int)) (by decide) rfl (Nat.le_of_ble_eq_true rfl) ?_
  intro p e s m args below meth c hx hb hr hts hown hlk hin hml hsz hK hM hS ls hl
  subst hsz
  have hl : lv_has ls 2 [(0, .ref x), (1, .int 5)] := hl
  refine lv_iload_n hx hb dX5_countWhileOn_0 rfl (lv_at hl 1 rfl) ?_
  refine lv_tableIn (off := 79) (tgt := 80) hx hb dX5_countWhileOn_1 (by decide) (by decide) (by decide) (by decide) ?_
  refine lv_aload_n hx hb dX5_countWhileOn_80 rfl (lv_at hl 0 rfl) ?_
  refine mm_get (v := .ref lg) (ci := 5) (C := RX5) (T := TX5) (N := 10) hx hb hts (in_X5_countWhileOn_X5) hown hK hM h_x rfl 2 (by decide) (hts (.fieldLink RX5 26 "GroupLog" "log" "LGroupLog$Log;") (List.mem_of_getElem? (i := 2) rfl)) rfl dX5_countWhileOn_81 ?_
  refine mm_getN (v := .int 1) (ci := 0) (C := RX0) (T := TX0) (N := 8) hx hb hts (in_X5_countWhileOn_X0) hown hK hM h_lg rfl 7 (by decide) (hK.2.1 _ (List.mem_of_getElem? (i := 2) rfl)) rfl dX5_countWhileOn_84 ?_
  exact mm_iret hx hb hr hlk hM hS (rfl) dX5_countWhileOn_87

set_option maxHeartbeats 4000000 in
set_option maxRecDepth 100000 in
theorem c_X5_cwo_8 {l : Launch} {D : va_G} {A : Nat → Prop} {cI cS cB cZ : ClassId} {M : Nat → Option va_E} {sz : Nat} {x st qu lg rd dr tp sa qb lb : Nat} {fa : Nat → Option Nat} {g h : Nat → Nat} (hI : st_inv cI M fa g h gl_F 64) (h_x : M x = some (Sum.inr (5, [.ref st, .ref qu, .ref lg, .ref rd, .ref dr, .ref tp, .int 0, .int 10, .int 0, .int 1]) : va_E)) (h_st : M st = some (Sum.inr (4, [.ref sa, .int 0, .int (-1), .int 0]) : va_E)) (h_sa : M sa = some (Sum.inl (cS, 64, .inr (.inr (.inr (.inr (fa))))) : va_E)) (h_qu : M qu = some (Sum.inr (1, [.ref qb, .int 0, .int 0, .int 0]) : va_E)) (h_lg : M lg = some (Sum.inr (0, [.ref lb, .int 1, .int 1, .int 0, .int 2, .int 0, .int 2, .int 1]) : va_E)) : Met l yX5_countWhileOn wsX5_countWhileOn ({ frames := 0, cells := 0, slots := 0, locals := 0 }) (mm_Pc D A (mm_T cI cS cB cZ) M sz [.ref x, .int 8]) (mm_Qi D A (fun r M1 => r = (-1))) 0 0 A := by
  refine mm_met (cc := cX5_countWhileOn) (maxL := 2) (ret := (some .int)) (by decide) rfl (Nat.le_of_ble_eq_true rfl) ?_
  intro p e s m args below meth c hx hb hr hts hown hlk hin hml hsz hK hM hS ls hl
  subst hsz
  have hl : lv_has ls 2 [(0, .ref x), (1, .int 8)] := hl
  refine lv_iload_n hx hb dX5_countWhileOn_0 rfl (lv_at hl 1 rfl) ?_
  refine lv_tableIn (off := 87) (tgt := 88) hx hb dX5_countWhileOn_1 (by decide) (by decide) (by decide) (by decide) ?_
  refine lv_aload_n hx hb dX5_countWhileOn_88 rfl (lv_at hl 0 rfl) ?_
  refine mm_get (v := .ref qu) (ci := 5) (C := RX5) (T := TX5) (N := 10) hx hb hts (in_X5_countWhileOn_X5) hown hK hM h_x rfl 1 (by decide) (hts (.fieldLink RX5 19 "GroupLog" "queue" "LGroupLog$Queue;") (List.mem_of_getElem? (i := 1) rfl)) rfl dX5_countWhileOn_89 ?_
  refine mm_getN (v := .int 0) (ci := 1) (C := RX1) (T := TX1) (N := 4) hx hb hts (in_X5_countWhileOn_X1) hown hK hM h_qu rfl 2 (by decide) (hK.2.1 _ (List.mem_of_getElem? (i := 11) rfl)) rfl dX5_countWhileOn_92 ?_
  refine lv_if_ne (tgt := 102) hx hb dX5_countWhileOn_95 (by decide) (fun c_1 => ?_) (fun c_1 => ?_)
  · exact absurd c_1 (by decide)
  refine lv_iconst (v := (-1)) hx hb dX5_countWhileOn_98 (by decide) ?_
  refine lv_goto (tgt := 109) hx hb dX5_countWhileOn_99 (by decide) ?_
  exact mm_iret hx hb hr hlk hM hS (rfl) dX5_countWhileOn_109

set_option maxHeartbeats 4000000 in
set_option maxRecDepth 100000 in
theorem c_X5_cwo_9 {l : Launch} {D : va_G} {A : Nat → Prop} {cI cS cB cZ : ClassId} {M : Nat → Option va_E} {sz : Nat} {x st qu lg rd dr tp sa qb lb : Nat} {fa : Nat → Option Nat} {g h : Nat → Nat} (hI : st_inv cI M fa g h gl_F 64) (h_x : M x = some (Sum.inr (5, [.ref st, .ref qu, .ref lg, .ref rd, .ref dr, .ref tp, .int 0, .int 10, .int 0, .int 1]) : va_E)) (h_st : M st = some (Sum.inr (4, [.ref sa, .int 0, .int (-1), .int 0]) : va_E)) (h_sa : M sa = some (Sum.inl (cS, 64, .inr (.inr (.inr (.inr (fa))))) : va_E)) (h_qu : M qu = some (Sum.inr (1, [.ref qb, .int 0, .int 0, .int 0]) : va_E)) (h_lg : M lg = some (Sum.inr (0, [.ref lb, .int 1, .int 1, .int 0, .int 2, .int 0, .int 2, .int 1]) : va_E)) : Met l yX5_countWhileOn wsX5_countWhileOn ({ frames := 5, cells := 0, slots := 0, locals := 109 }) (mm_Pc D A (mm_T cI cS cB cZ) M sz [.ref x, .int 9]) (mm_Qi D A (fun r M1 => r = 1)) 0 0 A := by
  refine mm_met (cc := cX5_countWhileOn) (maxL := 2) (ret := (some .int)) (by decide) rfl (Nat.le_of_ble_eq_true rfl) ?_
  intro p e s m args below meth c hx hb hr hts hown hlk hin hml hsz hK hM hS ls hl
  subst hsz
  have hl : lv_has ls 2 [(0, .ref x), (1, .int 9)] := hl
  refine lv_iload_n hx hb dX5_countWhileOn_0 rfl (lv_at hl 1 rfl) ?_
  refine lv_tableOut (tgt := 110) hx hb dX5_countWhileOn_1 (by decide) (by decide) ?_
  refine lv_aload_n hx hb dX5_countWhileOn_110 rfl (lv_at hl 0 rfl) ?_
  refine mm_get (v := .ref st) (ci := 5) (C := RX5) (T := TX5) (N := 10) hx hb hts (in_X5_countWhileOn_X5) hown hK hM h_x rfl 0 (by decide) (hts (.fieldLink RX5 12 "GroupLog" "store" "LGroupLog$Store;") (List.mem_of_getElem? (i := 3) rfl)) rfl dX5_countWhileOn_111 ?_
  have h_g0 := (hI 0 (by decide)).2.1
  have h_h0 : _ = some (Sum.inl (cI, 64, .inl (hd_f 1 1 1 2)) : va_E) := (hI 0 (by decide)).2.2.1
  have h_g1 := (hI 1 (by decide)).2.1
  have h_h1 : _ = some (Sum.inl (cI, 64, .inl (fun _ => 0)) : va_E) := (hI 1 (by decide)).2.2.1
  refine mm_calli (mm_runV (As := []) (rest := []) ⟨hx, hb, hml, hown, hts⟩ (c_X4_headVersion (hI 0 (by decide)).1 (hI 1 (by decide)).1 h_st h_sa h_g0 h_h0 h_g1 h_h1) (cwV 0 hts gX5_countWhileOn_X4_headVersion rfl rfl rfl (by decide +kernel) ⟨Nat.le_of_ble_eq_true rfl, Nat.le_of_ble_eq_true rfl⟩) hK hM h_st rfl rfl hl.1 rfl (Nat.le_of_ble_eq_true rfl) dX5_countWhileOn_114 ⟨Nat.le_of_ble_eq_true rfl, Nat.le_of_ble_eq_true rfl⟩) hS (fun _ h => h) (fun r1 M H locs hp hM hS hz _ => ?_)
  obtain ⟨rfl, hme⟩ := hp
  rw [hme] at hM
  exact mm_iret hx hb hr hlk hM hS (rfl) dX5_countWhileOn_117

theorem ct_no {w : Int32} (h : w < 0 ∨ 9 < w) : Op.lookupswitch.offset (#[(0, 35), (6, 48), (7, 56)] : Array (Int × Int)).toList 61 w.toInt = 61 := by
  have h2 := ct_int h
  have e0 : w.toInt ≠ 0 := by omega
  have e6 : w.toInt ≠ 6 := by omega
  have e7 : w.toInt ≠ 7 := by omega
  simp [Op.lookupswitch.offset, Ne.symm e0, Ne.symm e6, Ne.symm e7, e0, e6, e7]
theorem ct_bad {w : Int32} (h1 : ¬ w < 0) (h2 : w ≤ 9) : ¬ (w < 0 ∨ 9 < w) := by
  rintro (h | h)
  · exact h1 h
  · rw [Int32.le_iff_toInt_le] at h2
    rw [Int32.lt_iff_toInt_lt] at h
    omega

theorem in_X5_count_X4 : ∀ w ∈ u_ws RX4 TX4 4, w ∈ wsX5_count := fun w h => List.mem_cons_of_mem _ (List.mem_append_left _ (List.mem_append_left _ (List.mem_append_left _ (List.mem_append_right _ h))))
theorem in_X5_count_X5 : ∀ w ∈ u_ws RX5 TX5 10, w ∈ wsX5_count := fun w h => List.mem_cons_of_mem _ (List.mem_append_left _ (List.mem_append_left _ (List.mem_append_left _ (List.mem_append_left _ (List.mem_append_right _ h)))))
set_option maxHeartbeats 4000000 in
set_option maxRecDepth 100000 in
/-- GroupLog.count of a new object -/
theorem c_X5_count {l : Launch} {D : va_G} {A : Nat → Prop} {cI cS cB cZ : ClassId} {M : Nat → Option va_E} {sz : Nat} {x st qu lg rd dr tp sa qb lb : Nat} {fa : Nat → Option Nat} {g h : Nat → Nat} (hI : st_inv cI M fa g h gl_F 64) {k : Int32} (h_x : M x = some (Sum.inr (5, [.ref st, .ref qu, .ref lg, .ref rd, .ref dr, .ref tp, .int 0, .int 10, .int 0, .int 1]) : va_E)) (h_st : M st = some (Sum.inr (4, [.ref sa, .int 0, .int (-1), .int 0]) : va_E)) (h_sa : M sa = some (Sum.inl (cS, 64, .inr (.inr (.inr (.inr (fa))))) : va_E)) (h_qu : M qu = some (Sum.inr (1, [.ref qb, .int 0, .int 0, .int 0]) : va_E)) (h_lg : M lg = some (Sum.inr (0, [.ref lb, .int 1, .int 1, .int 0, .int 2, .int 0, .int 2, .int 1]) : va_E)) : Met l yX5_count wsX5_count ({ frames := 6, cells := 0, slots := 0, locals := 130 }) (mm_Pc D A (mm_T cI cS cB cZ) M sz [.ref x, .int k]) (mm_Qi D A (fun r M1 => r = ct_f k)) 0 0 A := by
  refine mm_met (cc := cX5_count) (maxL := 2) (ret := (some .int)) (by decide) rfl (Nat.le_of_ble_eq_true rfl) ?_
  intro p e s m args below meth c hx hb hr hts hown hlk hin hml hsz hK hM hS ls hl
  subst hsz
  have hl : lv_has ls 2 [(0, .ref x), (1, .int k)] := hl
  rcases ct_cases k with rfl | rfl | rfl | rfl | rfl | rfl | rfl | rfl | rfl | rfl | hk
  · skip
    have hl : lv_has ls 2 [(0, .ref x), (1, .int 0)] := hl
    refine lv_iload_n hx hb dX5_count_0 rfl (lv_at hl 1 rfl) ?_
    refine lv_lookup (off := 35) (tgt := 36) hx hb dX5_count_1 (by decide) (by decide) (by decide) ?_
    refine lv_aload_n hx hb dX5_count_36 rfl (lv_at hl 0 rfl) ?_
    refine mm_get (v := .int 1) (ci := 5) (C := RX5) (T := TX5) (N := 10) hx hb hts (in_X5_count_X5) hown hK hM h_x rfl 9 (by decide) (hts (.fieldLink RX5 58 "GroupLog" "on" "Z") (List.mem_of_getElem? (i := 1) rfl)) rfl dX5_count_37 ?_
    refine lv_if_eq (tgt := 47) hx hb dX5_count_40 (by decide) (fun c_1 => ?_) (fun c_1 => ?_)
    · exact absurd c_1 (by decide)
    refine lv_iconst (v := 1) hx hb dX5_count_43 (by decide) ?_
    refine lv_goto (tgt := 48) hx hb dX5_count_44 (by decide) ?_
    exact mm_iret hx hb hr hlk hM hS (by decide) dX5_count_48
  · skip
    have hl : lv_has ls 2 [(0, .ref x), (1, .int 1)] := hl
    refine lv_iload_n hx hb dX5_count_0 rfl (lv_at hl 1 rfl) ?_
    refine lv_lookup (off := 61) (tgt := 62) hx hb dX5_count_1 (by decide) (by decide) (by decide) ?_
    refine lv_iload_n hx hb dX5_count_62 rfl (lv_at hl 1 rfl) ?_
    refine lv_if_lt (tgt := 72) hx hb dX5_count_63 (by decide) (fun c_2 => ?_) (fun c_2 => ?_)
    · exact absurd c_2 (by decide)
    refine lv_iload_n hx hb dX5_count_66 rfl (lv_at hl 1 rfl) ?_
    refine lv_bipush (v := 9) hx hb dX5_count_67 (by decide) ?_
    refine lv_icmp_le (tgt := 74) hx hb dX5_count_69 (by decide) (fun c_3 => ?_) (fun c_3 => ?_)
    rotate_left
    · exact absurd c_3 (by decide)
    refine lv_aload_n hx hb dX5_count_74 rfl (lv_at hl 0 rfl) ?_
    refine mm_get (v := .int 1) (ci := 5) (C := RX5) (T := TX5) (N := 10) hx hb hts (in_X5_count_X5) hown hK hM h_x rfl 9 (by decide) (hts (.fieldLink RX5 58 "GroupLog" "on" "Z") (List.mem_of_getElem? (i := 1) rfl)) rfl dX5_count_75 ?_
    refine lv_if_eq (tgt := 89) hx hb dX5_count_78 (by decide) (fun c_4 => ?_) (fun c_4 => ?_)
    · exact absurd c_4 (by decide)
    refine lv_aload_n hx hb dX5_count_81 rfl (lv_at hl 0 rfl) ?_
    refine lv_iload_n hx hb dX5_count_82 rfl (lv_at hl 1 rfl) ?_
    refine mm_calli (mm_runV (As := [.int 1]) (rest := []) ⟨hx, hb, hml, hown, hts⟩ (c_X5_cwo_1 (dr := dr) (tp := tp) hI h_x h_st h_sa h_qu h_lg) (cwV 1 hts gX5_count_X5_countWhileOn rfl rfl rfl (by decide +kernel) ⟨Nat.le_of_ble_eq_true rfl, Nat.le_of_ble_eq_true rfl⟩) hK hM h_x rfl rfl hl.1 rfl (Nat.le_of_ble_eq_true rfl) dX5_count_83 ⟨Nat.le_of_ble_eq_true rfl, Nat.le_of_ble_eq_true rfl⟩) hS (fun _ h => h) (fun r5 M H locs hp hM hS hz _ => ?_)
    subst hp
    refine lv_goto (tgt := 91) hx hb dX5_count_86 (by decide) ?_
    exact mm_iret hx hb hr hlk hM hS (by decide) dX5_count_91
  · skip
    have hl : lv_has ls 2 [(0, .ref x), (1, .int 2)] := hl
    refine lv_iload_n hx hb dX5_count_0 rfl (lv_at hl 1 rfl) ?_
    refine lv_lookup (off := 61) (tgt := 62) hx hb dX5_count_1 (by decide) (by decide) (by decide) ?_
    refine lv_iload_n hx hb dX5_count_62 rfl (lv_at hl 1 rfl) ?_
    refine lv_if_lt (tgt := 72) hx hb dX5_count_63 (by decide) (fun c_6 => ?_) (fun c_6 => ?_)
    · exact absurd c_6 (by decide)
    refine lv_iload_n hx hb dX5_count_66 rfl (lv_at hl 1 rfl) ?_
    refine lv_bipush (v := 9) hx hb dX5_count_67 (by decide) ?_
    refine lv_icmp_le (tgt := 74) hx hb dX5_count_69 (by decide) (fun c_7 => ?_) (fun c_7 => ?_)
    rotate_left
    · exact absurd c_7 (by decide)
    refine lv_aload_n hx hb dX5_count_74 rfl (lv_at hl 0 rfl) ?_
    refine mm_get (v := .int 1) (ci := 5) (C := RX5) (T := TX5) (N := 10) hx hb hts (in_X5_count_X5) hown hK hM h_x rfl 9 (by decide) (hts (.fieldLink RX5 58 "GroupLog" "on" "Z") (List.mem_of_getElem? (i := 1) rfl)) rfl dX5_count_75 ?_
    refine lv_if_eq (tgt := 89) hx hb dX5_count_78 (by decide) (fun c_8 => ?_) (fun c_8 => ?_)
    · exact absurd c_8 (by decide)
    refine lv_aload_n hx hb dX5_count_81 rfl (lv_at hl 0 rfl) ?_
    refine lv_iload_n hx hb dX5_count_82 rfl (lv_at hl 1 rfl) ?_
    refine mm_calli (mm_runV (As := [.int 2]) (rest := []) ⟨hx, hb, hml, hown, hts⟩ (c_X5_cwo_2 (dr := dr) (tp := tp) hI h_x h_st h_sa h_qu h_lg) (cwV 1 hts gX5_count_X5_countWhileOn rfl rfl rfl (by decide +kernel) ⟨Nat.le_of_ble_eq_true rfl, Nat.le_of_ble_eq_true rfl⟩) hK hM h_x rfl rfl hl.1 rfl (Nat.le_of_ble_eq_true rfl) dX5_count_83 ⟨Nat.le_of_ble_eq_true rfl, Nat.le_of_ble_eq_true rfl⟩) hS (fun _ h => h) (fun r9 M H locs hp hM hS hz _ => ?_)
    subst hp
    refine lv_goto (tgt := 91) hx hb dX5_count_86 (by decide) ?_
    exact mm_iret hx hb hr hlk hM hS (by decide) dX5_count_91
  · skip
    have hl : lv_has ls 2 [(0, .ref x), (1, .int 3)] := hl
    refine lv_iload_n hx hb dX5_count_0 rfl (lv_at hl 1 rfl) ?_
    refine lv_lookup (off := 61) (tgt := 62) hx hb dX5_count_1 (by decide) (by decide) (by decide) ?_
    refine lv_iload_n hx hb dX5_count_62 rfl (lv_at hl 1 rfl) ?_
    refine lv_if_lt (tgt := 72) hx hb dX5_count_63 (by decide) (fun c_10 => ?_) (fun c_10 => ?_)
    · exact absurd c_10 (by decide)
    refine lv_iload_n hx hb dX5_count_66 rfl (lv_at hl 1 rfl) ?_
    refine lv_bipush (v := 9) hx hb dX5_count_67 (by decide) ?_
    refine lv_icmp_le (tgt := 74) hx hb dX5_count_69 (by decide) (fun c_11 => ?_) (fun c_11 => ?_)
    rotate_left
    · exact absurd c_11 (by decide)
    refine lv_aload_n hx hb dX5_count_74 rfl (lv_at hl 0 rfl) ?_
    refine mm_get (v := .int 1) (ci := 5) (C := RX5) (T := TX5) (N := 10) hx hb hts (in_X5_count_X5) hown hK hM h_x rfl 9 (by decide) (hts (.fieldLink RX5 58 "GroupLog" "on" "Z") (List.mem_of_getElem? (i := 1) rfl)) rfl dX5_count_75 ?_
    refine lv_if_eq (tgt := 89) hx hb dX5_count_78 (by decide) (fun c_12 => ?_) (fun c_12 => ?_)
    · exact absurd c_12 (by decide)
    refine lv_aload_n hx hb dX5_count_81 rfl (lv_at hl 0 rfl) ?_
    refine lv_iload_n hx hb dX5_count_82 rfl (lv_at hl 1 rfl) ?_
    refine mm_calli (mm_runV (As := [.int 3]) (rest := []) ⟨hx, hb, hml, hown, hts⟩ (c_X5_cwo_3 (dr := dr) (tp := tp) hI h_x h_st h_sa h_qu h_lg) (cwV 1 hts gX5_count_X5_countWhileOn rfl rfl rfl (by decide +kernel) ⟨Nat.le_of_ble_eq_true rfl, Nat.le_of_ble_eq_true rfl⟩) hK hM h_x rfl rfl hl.1 rfl (Nat.le_of_ble_eq_true rfl) dX5_count_83 ⟨Nat.le_of_ble_eq_true rfl, Nat.le_of_ble_eq_true rfl⟩) hS (fun _ h => h) (fun r13 M H locs hp hM hS hz _ => ?_)
    subst hp
    refine lv_goto (tgt := 91) hx hb dX5_count_86 (by decide) ?_
    exact mm_iret hx hb hr hlk hM hS (by decide) dX5_count_91
  · skip
    have hl : lv_has ls 2 [(0, .ref x), (1, .int 4)] := hl
    refine lv_iload_n hx hb dX5_count_0 rfl (lv_at hl 1 rfl) ?_
    refine lv_lookup (off := 61) (tgt := 62) hx hb dX5_count_1 (by decide) (by decide) (by decide) ?_
    refine lv_iload_n hx hb dX5_count_62 rfl (lv_at hl 1 rfl) ?_
    refine lv_if_lt (tgt := 72) hx hb dX5_count_63 (by decide) (fun c_14 => ?_) (fun c_14 => ?_)
    · exact absurd c_14 (by decide)
    refine lv_iload_n hx hb dX5_count_66 rfl (lv_at hl 1 rfl) ?_
    refine lv_bipush (v := 9) hx hb dX5_count_67 (by decide) ?_
    refine lv_icmp_le (tgt := 74) hx hb dX5_count_69 (by decide) (fun c_15 => ?_) (fun c_15 => ?_)
    rotate_left
    · exact absurd c_15 (by decide)
    refine lv_aload_n hx hb dX5_count_74 rfl (lv_at hl 0 rfl) ?_
    refine mm_get (v := .int 1) (ci := 5) (C := RX5) (T := TX5) (N := 10) hx hb hts (in_X5_count_X5) hown hK hM h_x rfl 9 (by decide) (hts (.fieldLink RX5 58 "GroupLog" "on" "Z") (List.mem_of_getElem? (i := 1) rfl)) rfl dX5_count_75 ?_
    refine lv_if_eq (tgt := 89) hx hb dX5_count_78 (by decide) (fun c_16 => ?_) (fun c_16 => ?_)
    · exact absurd c_16 (by decide)
    refine lv_aload_n hx hb dX5_count_81 rfl (lv_at hl 0 rfl) ?_
    refine lv_iload_n hx hb dX5_count_82 rfl (lv_at hl 1 rfl) ?_
    refine mm_calli (mm_runV (As := [.int 4]) (rest := []) ⟨hx, hb, hml, hown, hts⟩ (c_X5_cwo_4 (dr := dr) (tp := tp) hI h_x h_st h_sa h_qu h_lg) (cwV 1 hts gX5_count_X5_countWhileOn rfl rfl rfl (by decide +kernel) ⟨Nat.le_of_ble_eq_true rfl, Nat.le_of_ble_eq_true rfl⟩) hK hM h_x rfl rfl hl.1 rfl (Nat.le_of_ble_eq_true rfl) dX5_count_83 ⟨Nat.le_of_ble_eq_true rfl, Nat.le_of_ble_eq_true rfl⟩) hS (fun _ h => h) (fun r17 M H locs hp hM hS hz _ => ?_)
    subst hp
    refine lv_goto (tgt := 91) hx hb dX5_count_86 (by decide) ?_
    exact mm_iret hx hb hr hlk hM hS (by decide) dX5_count_91
  · skip
    have hl : lv_has ls 2 [(0, .ref x), (1, .int 5)] := hl
    refine lv_iload_n hx hb dX5_count_0 rfl (lv_at hl 1 rfl) ?_
    refine lv_lookup (off := 61) (tgt := 62) hx hb dX5_count_1 (by decide) (by decide) (by decide) ?_
    refine lv_iload_n hx hb dX5_count_62 rfl (lv_at hl 1 rfl) ?_
    refine lv_if_lt (tgt := 72) hx hb dX5_count_63 (by decide) (fun c_18 => ?_) (fun c_18 => ?_)
    · exact absurd c_18 (by decide)
    refine lv_iload_n hx hb dX5_count_66 rfl (lv_at hl 1 rfl) ?_
    refine lv_bipush (v := 9) hx hb dX5_count_67 (by decide) ?_
    refine lv_icmp_le (tgt := 74) hx hb dX5_count_69 (by decide) (fun c_19 => ?_) (fun c_19 => ?_)
    rotate_left
    · exact absurd c_19 (by decide)
    refine lv_aload_n hx hb dX5_count_74 rfl (lv_at hl 0 rfl) ?_
    refine mm_get (v := .int 1) (ci := 5) (C := RX5) (T := TX5) (N := 10) hx hb hts (in_X5_count_X5) hown hK hM h_x rfl 9 (by decide) (hts (.fieldLink RX5 58 "GroupLog" "on" "Z") (List.mem_of_getElem? (i := 1) rfl)) rfl dX5_count_75 ?_
    refine lv_if_eq (tgt := 89) hx hb dX5_count_78 (by decide) (fun c_20 => ?_) (fun c_20 => ?_)
    · exact absurd c_20 (by decide)
    refine lv_aload_n hx hb dX5_count_81 rfl (lv_at hl 0 rfl) ?_
    refine lv_iload_n hx hb dX5_count_82 rfl (lv_at hl 1 rfl) ?_
    refine mm_calli (mm_runV (As := [.int 5]) (rest := []) ⟨hx, hb, hml, hown, hts⟩ (c_X5_cwo_5 (dr := dr) (tp := tp) hI h_x h_st h_sa h_qu h_lg) (cwV 1 hts gX5_count_X5_countWhileOn rfl rfl rfl (by decide +kernel) ⟨Nat.le_of_ble_eq_true rfl, Nat.le_of_ble_eq_true rfl⟩) hK hM h_x rfl rfl hl.1 rfl (Nat.le_of_ble_eq_true rfl) dX5_count_83 ⟨Nat.le_of_ble_eq_true rfl, Nat.le_of_ble_eq_true rfl⟩) hS (fun _ h => h) (fun r21 M H locs hp hM hS hz _ => ?_)
    subst hp
    refine lv_goto (tgt := 91) hx hb dX5_count_86 (by decide) ?_
    exact mm_iret hx hb hr hlk hM hS (by decide) dX5_count_91
  · skip
    have hl : lv_has ls 2 [(0, .ref x), (1, .int 6)] := hl
    refine lv_iload_n hx hb dX5_count_0 rfl (lv_at hl 1 rfl) ?_
    refine lv_lookup (off := 48) (tgt := 49) hx hb dX5_count_1 (by decide) (by decide) (by decide) ?_
    refine lv_aload_n hx hb dX5_count_49 rfl (lv_at hl 0 rfl) ?_
    refine mm_get (v := .ref st) (ci := 5) (C := RX5) (T := TX5) (N := 10) hx hb hts (in_X5_count_X5) hown hK hM h_x rfl 0 (by decide) (hts (.fieldLink RX5 12 "GroupLog" "store" "LGroupLog$Store;") (List.mem_of_getElem? (i := 2) rfl)) rfl dX5_count_50 ?_
    refine mm_getN (v := .int 0) (ci := 4) (C := RX4) (T := TX4) (N := 4) hx hb hts (in_X5_count_X4) hown hK hM h_st rfl 1 (by decide) (hK.2.1 _ (List.mem_of_getElem? (i := 7) rfl)) rfl dX5_count_53 ?_
    exact mm_iret hx hb hr hlk hM hS (by decide) dX5_count_56
  · skip
    have hl : lv_has ls 2 [(0, .ref x), (1, .int 7)] := hl
    refine lv_iload_n hx hb dX5_count_0 rfl (lv_at hl 1 rfl) ?_
    refine lv_lookup (off := 56) (tgt := 57) hx hb dX5_count_1 (by decide) (by decide) (by decide) ?_
    refine lv_aload_n hx hb dX5_count_57 rfl (lv_at hl 0 rfl) ?_
    refine mm_get (v := .int 0) (ci := 5) (C := RX5) (T := TX5) (N := 10) hx hb hts (in_X5_count_X5) hown hK hM h_x rfl 8 (by decide) (hts (.fieldLink RX5 55 "GroupLog" "flushes" "I") (List.mem_of_getElem? (i := 3) rfl)) rfl dX5_count_58 ?_
    exact mm_iret hx hb hr hlk hM hS (by decide) dX5_count_61
  · skip
    have hl : lv_has ls 2 [(0, .ref x), (1, .int 8)] := hl
    refine lv_iload_n hx hb dX5_count_0 rfl (lv_at hl 1 rfl) ?_
    refine lv_lookup (off := 61) (tgt := 62) hx hb dX5_count_1 (by decide) (by decide) (by decide) ?_
    refine lv_iload_n hx hb dX5_count_62 rfl (lv_at hl 1 rfl) ?_
    refine lv_if_lt (tgt := 72) hx hb dX5_count_63 (by decide) (fun c_22 => ?_) (fun c_22 => ?_)
    · exact absurd c_22 (by decide)
    refine lv_iload_n hx hb dX5_count_66 rfl (lv_at hl 1 rfl) ?_
    refine lv_bipush (v := 9) hx hb dX5_count_67 (by decide) ?_
    refine lv_icmp_le (tgt := 74) hx hb dX5_count_69 (by decide) (fun c_23 => ?_) (fun c_23 => ?_)
    rotate_left
    · exact absurd c_23 (by decide)
    refine lv_aload_n hx hb dX5_count_74 rfl (lv_at hl 0 rfl) ?_
    refine mm_get (v := .int 1) (ci := 5) (C := RX5) (T := TX5) (N := 10) hx hb hts (in_X5_count_X5) hown hK hM h_x rfl 9 (by decide) (hts (.fieldLink RX5 58 "GroupLog" "on" "Z") (List.mem_of_getElem? (i := 1) rfl)) rfl dX5_count_75 ?_
    refine lv_if_eq (tgt := 89) hx hb dX5_count_78 (by decide) (fun c_24 => ?_) (fun c_24 => ?_)
    · exact absurd c_24 (by decide)
    refine lv_aload_n hx hb dX5_count_81 rfl (lv_at hl 0 rfl) ?_
    refine lv_iload_n hx hb dX5_count_82 rfl (lv_at hl 1 rfl) ?_
    refine mm_calli (mm_runV (As := [.int 8]) (rest := []) ⟨hx, hb, hml, hown, hts⟩ (c_X5_cwo_8 (dr := dr) (tp := tp) hI h_x h_st h_sa h_qu h_lg) (cwV 1 hts gX5_count_X5_countWhileOn rfl rfl rfl (by decide +kernel) ⟨Nat.le_of_ble_eq_true rfl, Nat.le_of_ble_eq_true rfl⟩) hK hM h_x rfl rfl hl.1 rfl (Nat.le_of_ble_eq_true rfl) dX5_count_83 ⟨Nat.le_of_ble_eq_true rfl, Nat.le_of_ble_eq_true rfl⟩) hS (fun _ h => h) (fun r25 M H locs hp hM hS hz _ => ?_)
    subst hp
    refine lv_goto (tgt := 91) hx hb dX5_count_86 (by decide) ?_
    exact mm_iret hx hb hr hlk hM hS (by decide) dX5_count_91
  · skip
    have hl : lv_has ls 2 [(0, .ref x), (1, .int 9)] := hl
    refine lv_iload_n hx hb dX5_count_0 rfl (lv_at hl 1 rfl) ?_
    refine lv_lookup (off := 61) (tgt := 62) hx hb dX5_count_1 (by decide) (by decide) (by decide) ?_
    refine lv_iload_n hx hb dX5_count_62 rfl (lv_at hl 1 rfl) ?_
    refine lv_if_lt (tgt := 72) hx hb dX5_count_63 (by decide) (fun c_26 => ?_) (fun c_26 => ?_)
    · exact absurd c_26 (by decide)
    refine lv_iload_n hx hb dX5_count_66 rfl (lv_at hl 1 rfl) ?_
    refine lv_bipush (v := 9) hx hb dX5_count_67 (by decide) ?_
    refine lv_icmp_le (tgt := 74) hx hb dX5_count_69 (by decide) (fun c_27 => ?_) (fun c_27 => ?_)
    rotate_left
    · exact absurd c_27 (by decide)
    refine lv_aload_n hx hb dX5_count_74 rfl (lv_at hl 0 rfl) ?_
    refine mm_get (v := .int 1) (ci := 5) (C := RX5) (T := TX5) (N := 10) hx hb hts (in_X5_count_X5) hown hK hM h_x rfl 9 (by decide) (hts (.fieldLink RX5 58 "GroupLog" "on" "Z") (List.mem_of_getElem? (i := 1) rfl)) rfl dX5_count_75 ?_
    refine lv_if_eq (tgt := 89) hx hb dX5_count_78 (by decide) (fun c_28 => ?_) (fun c_28 => ?_)
    · exact absurd c_28 (by decide)
    refine lv_aload_n hx hb dX5_count_81 rfl (lv_at hl 0 rfl) ?_
    refine lv_iload_n hx hb dX5_count_82 rfl (lv_at hl 1 rfl) ?_
    refine mm_calli (mm_runV (As := [.int 9]) (rest := []) ⟨hx, hb, hml, hown, hts⟩ (c_X5_cwo_9 (dr := dr) (tp := tp) hI h_x h_st h_sa h_qu h_lg) (cwV 1 hts gX5_count_X5_countWhileOn rfl rfl rfl (by decide +kernel) ⟨Nat.le_of_ble_eq_true rfl, Nat.le_of_ble_eq_true rfl⟩) hK hM h_x rfl rfl hl.1 rfl (Nat.le_of_ble_eq_true rfl) dX5_count_83 ⟨Nat.le_of_ble_eq_true rfl, Nat.le_of_ble_eq_true rfl⟩) hS (fun _ h => h) (fun r29 M H locs hp hM hS hz _ => ?_)
    subst hp
    refine lv_goto (tgt := 91) hx hb dX5_count_86 (by decide) ?_
    exact mm_iret hx hb hr hlk hM hS (by decide) dX5_count_91
  · skip
    refine lv_iload_n hx hb dX5_count_0 rfl (lv_at hl 1 rfl) ?_
    refine lv_lookup (off := 61) (tgt := 62) hx hb dX5_count_1 (by decide) (ct_no hk) (by decide) ?_
    refine lv_iload_n hx hb dX5_count_62 rfl (lv_at hl 1 rfl) ?_
    refine lv_if_lt (tgt := 72) hx hb dX5_count_63 (by decide) (fun c_30 => ?_) (fun c_30 => ?_)
    · skip
      refine lv_iconst (v := (-1)) hx hb dX5_count_72 (by decide) ?_
      exact mm_iret hx hb hr hlk hM hS (ct_out hk) dX5_count_73
    · skip
      refine lv_iload_n hx hb dX5_count_66 rfl (lv_at hl 1 rfl) ?_
      refine lv_bipush (v := 9) hx hb dX5_count_67 (by decide) ?_
      refine lv_icmp_le (tgt := 74) hx hb dX5_count_69 (by decide) (fun c_31 => ?_) (fun c_31 => ?_)
      · skip
        exact absurd hk (ct_bad c_30 c_31)
      · skip
        refine lv_iconst (v := (-1)) hx hb dX5_count_72 (by decide) ?_
        exact mm_iret hx hb hr hlk hM hS (ct_out hk) dX5_count_73
end
section
/-! ===== the reference ===== -/
theorem dX6_append_47 : decode cX6_append 47 = .ok (.iconst (-1), 1) := by decide +kernel
theorem dX6_append_48 : decode cX6_append 48 = .ok (.ireturn, 1) := by decide +kernel
def bs_t (n s : Int32) : Int32 := vp_nar .byte ((n >>> (s &&& 31)).toInt8.toInt32)
def nm_t (f : Nat → Int32) (j : Nat) (n : Int32) : Nat → Int32 := upd (upd (upd (upd f (j + 0) (bs_t n 24)) (j + 1) (bs_t n 16)) (j + 2) (bs_t n 8)) (j + 3) (bs_t n 0)
def mh_p (v s r p : Int32) : Nat → Int32 := upd (nm_t (nm_t (nm_t (fun _ => 0) 0 v) 4 s) 8 r) 12 (vp_nar .byte (p.toInt8.toInt32))
def mh_f (v s r p : Int32) : Nat → Int32 := nm_t (mh_p v s r p) 13 (cr_b (fun k => mh_p v s r p k &&& 255) 0 13 (-1) ^^^ (-1))
def md_F : Nat → Int32 := fun k => if k < 64 then vp_nar .byte (mh_f 1 1 1 2 k) else 0
theorem md_0 : ∀ n, n < 64 → md_F n &&& 255 = hd_f 1 1 1 2 n := by decide +kernel
theorem md_eq {j n : Nat} (hn : n < 64) : md_F (64 * j + n) &&& 255 = gl_F j n := by
  by_cases e : j = 0
  · subst e
    rw [show 64 * 0 + n = n by omega]
    exact md_0 n hn
  · have h1 : md_F (64 * j + n) = 0 := by unfold md_F; rw [if_neg (by omega)]
    have h2 : gl_F j = fun _ => 0 := by unfold gl_F; rw [if_neg e]
    rw [h1, h2]
    show (0 : Int32) &&& 255 = 0
    decide

set_option maxHeartbeats 4000000 in
set_option maxRecDepth 100000 in
theorem lp_X6_add {p : Program} {l : Launch} {e : Env} {s : State} {m : MethodId} {args : Array Value} {below : List Frame} {meth : Method} {c : Code} {Q : State → Prop} {D : va_G} {A : Nat → Prop} {cI cS cB cZ : ClassId} {cells slots : Nat} {R : Room} (hx : p.tables.exec = Jvm.exec) (hb : c.code = cX6_add) (hts : ∀ w ∈ wsX6_add, w.before args s = true) (hown : s.vm.findClass RX6 = some m.cls) (hml : c.maxLocals = 4) (hK : mm_K D (mm_T cI cS cB cZ) s) {H : Heap} {locs : List Loc} :
    ∀ (n k : Nat), k + n = 8 → ∀ (x : Int32) (ls : Array Slot), lv_has ls 4 [(2, .int x), (3, .int (nI k))] → (∀ ls1 : Array Slot, lv_has ls1 4 [(2, .int (cr_n n x))] → W p l e R s m args below meth c H locs cells slots Q (F0 m 42 ls1 [])) → W p l e R s m args below meth c H locs cells slots Q (F0 m 10 ls []) := by
  intro n
  induction n with
  | zero =>
    intro k hk x ls hl kx
    obtain rfl : k = 8 := by omega
    refine lv_iload_n hx hb dX6_add_10 rfl (lv_at hl 1 rfl) ?_
    refine lv_bipush (v := 8) hx hb dX6_add_11 (by decide) ?_
    refine lv_icmp_ge (tgt := 42) hx hb dX6_add_13 (by decide) (fun c_1 => ?_) (fun c_1 => ?_)
    rotate_left
    · exact absurd c_1 (fun h => h (by decide))
    exact kx ls (lv_sub hl [0] rfl)
  | succ n ih =>
    intro k hk x ls hl kx
    refine lv_iload_n hx hb dX6_add_10 rfl (lv_at hl 1 rfl) ?_
    refine lv_bipush (v := 8) hx hb dX6_add_11 (by decide) ?_
    refine lv_icmp_ge (tgt := 42) hx hb dX6_add_13 (by decide) (fun c_2 => ?_) (fun c_2 => ?_)
    · exact absurd c_2 (nI_ge (b := 8) (by omega) (by decide))
    refine lv_iload_n hx hb dX6_add_16 rfl (lv_at hl 0 rfl) ?_
    refine lv_iconst (v := 1) hx hb dX6_add_17 (by decide) ?_
    refine lv_iand hx hb dX6_add_18 ?_
    refine lv_iconst (v := 1) hx hb dX6_add_19 (by decide) ?_
    refine lv_icmp_ne (tgt := 32) hx hb dX6_add_20 (by decide) (fun c_3 => ?_) (fun c_3 => ?_)
    · skip
      refine lv_iload_n hx hb dX6_add_32 rfl (lv_at hl 0 rfl) ?_
      refine lv_iconst (v := 1) hx hb dX6_add_33 (by decide) ?_
      refine lv_iushr hx hb dX6_add_34 rfl ?_
      refine lv_topi (fun z4 ez4 => ?_)
      have ez4 : z4 = (cr_s x) := ez4.trans (by show _ = cr_s x; unfold cr_s; rw [if_neg c_3]; rfl)
      subst ez4
      refine lv_istore_n (lv' := [(2, .int (cr_s x)), (3, .int (nI k))]) hx hb dX6_add_35 rfl hl (by decide) rfl (fun ls hl => ?_)
      refine lv_iinc (v := (nI (k + 1))) (lv' := [(3, .int (nI (k + 1))), (2, .int (cr_s x))]) hx hb dX6_add_36 hl (k := 1) rfl (by show _ + (1 : Int32) = _; exact nI_1 k) (by decide) rfl (fun ls hl => ?_)
      refine lv_goto (tgt := 10) hx hb dX6_add_39 (by decide) ?_
      exact ih (k + 1) (by omega) (cr_s x) ls (lv_sub hl [1, 0] rfl) kx
    · skip
      refine lv_iload_n hx hb dX6_add_23 rfl (lv_at hl 0 rfl) ?_
      refine lv_iconst (v := 1) hx hb dX6_add_24 (by decide) ?_
      refine lv_iushr hx hb dX6_add_25 rfl ?_
      refine lv_ldc (v := (-306674912)) hx hb hown (hts (.constant RX6 74 (-306674912)) (List.mem_of_getElem? (i := 1) rfl)) dX6_add_26 ?_
      refine lv_ixor hx hb dX6_add_28 ?_
      refine lv_goto (tgt := 35) hx hb dX6_add_29 (by decide) ?_
      refine lv_topi (fun z5 ez5 => ?_)
      have ez5 : z5 = (cr_s x) := ez5.trans (by show _ = cr_s x; unfold cr_s; rw [if_pos c_3]; rfl)
      subst ez5
      refine lv_istore_n (lv' := [(2, .int (cr_s x)), (3, .int (nI k))]) hx hb dX6_add_35 rfl hl (by decide) rfl (fun ls hl => ?_)
      refine lv_iinc (v := (nI (k + 1))) (lv' := [(3, .int (nI (k + 1))), (2, .int (cr_s x))]) hx hb dX6_add_36 hl (k := 1) rfl (by show _ + (1 : Int32) = _; exact nI_1 k) (by decide) rfl (fun ls hl => ?_)
      refine lv_goto (tgt := 10) hx hb dX6_add_39 (by decide) ?_
      exact ih (k + 1) (by omega) (cr_s x) ls (lv_sub hl [1, 0] rfl) kx

set_option maxHeartbeats 4000000 in
set_option maxRecDepth 100000 in
theorem c_X6_add {l : Launch} {D : va_G} {A : Nat → Prop} {cI cS cB cZ : ClassId} {M : Nat → Option va_E} {sz : Nat} {x b : Int32}  : Met l yX6_add wsX6_add ({ frames := 0, cells := 0, slots := 0, locals := 0 }) (mm_Pc D A (mm_T cI cS cB cZ) M sz [.int x, .int b]) (mm_Qi D A (fun r M1 => r = cr_n 8 (x ^^^ (b &&& 255)) ∧ M1 = M)) 0 0 A := by
  refine mm_met (cc := cX6_add) (maxL := 4) (ret := (some .int)) (by decide) rfl (Nat.le_of_ble_eq_true rfl) ?_
  intro p e s m args below meth c hx hb hr hts hown hlk hin hml hsz hK hM hS ls hl
  subst hsz
  have hl : lv_has ls 4 [(0, .int x), (1, .int b)] := hl
  refine lv_iload_n hx hb dX6_add_0 rfl (lv_at hl 0 rfl) ?_
  refine lv_iload_n hx hb dX6_add_1 rfl (lv_at hl 1 rfl) ?_
  refine lv_sipush (v := 255) hx hb dX6_add_2 (by decide) ?_
  refine lv_iand hx hb dX6_add_5 ?_
  refine lv_ixor hx hb dX6_add_6 ?_
  refine lv_istore_n (lv' := [(2, .int (x ^^^ (b &&& 255))), (0, .int x), (1, .int b)]) hx hb dX6_add_7 rfl hl (by decide) rfl (fun ls hl => ?_)
  refine lv_iconst (v := 0) hx hb dX6_add_8 (by decide) ?_
  refine lv_istore_n (lv' := [(3, .int 0), (2, .int (x ^^^ (b &&& 255))), (0, .int x), (1, .int b)]) hx hb dX6_add_9 rfl hl (by decide) rfl (fun ls hl => ?_)
  refine lp_X6_add (A := A) (cI := cI) (cS := cS) (cB := cB) (cZ := cZ) (D := D) hx hb hts hown hml hK 8 0 rfl _ ls (lv_sub hl [1, 0] rfl) (fun ls hl => ?_)
  refine lv_iload_n hx hb dX6_add_42 rfl (lv_at hl 0 rfl) ?_
  exact mm_iret hx hb hr hlk hM hS (⟨rfl, rfl⟩) dX6_add_43

set_option maxHeartbeats 4000000 in
set_option maxRecDepth 100000 in
theorem lp_X6_sum {p : Program} {l : Launch} {e : Env} {s : State} {m : MethodId} {args : Array Value} {below : List Frame} {meth : Method} {c : Code} {Q : State → Prop} {D : va_G} {A : Nat → Prop} {cI cS cB cZ : ClassId} (hx : p.tables.exec = Jvm.exec) (hb : c.code = cX6_headSum) (hts : ∀ w ∈ wsX6_headSum, w.before args s = true) (hown : s.vm.findClass RX6 = some m.cls) (hml : c.maxLocals = 4) (hK : mm_K D (mm_T cI cS cB cZ) s) {sc : Nat} {f : Nat → Int32} :
    ∀ (n j : Nat), j + n = 13 → ∀ (x : Int32) (H : Heap) (locs : List Loc) (M : Nat → Option va_E), mm_W D A M H → va_S A s.heap H locs → M sc = some (Sum.inl (cB, 64, .inl (f)) : va_E) → ∀ (ls : Array Slot), lv_has ls 4 [(0, .ref sc), (1, .int 0), (2, .int x), (3, .int (nI j))] → (∀ (H1 : Heap) (locs1 : List Loc) (ls1 : Array Slot), mm_W D A M H1 → va_S A s.heap H1 locs1 → lv_has ls1 4 [(0, .ref sc), (1, .int 0), (2, .int (cr_b (fun k => f k &&& 255) j n x)), (3, .int (nI 13))] → W p l e ({ frames := 1, cells := 0, slots := 0, locals := 23 } : Room) s m args below meth c H1 locs1 0 0 Q (F0 m 26 ls1 [])) → W p l e ({ frames := 1, cells := 0, slots := 0, locals := 23 } : Room) s m args below meth c H locs 0 0 Q (F0 m 4 ls []) := by
  intro n
  induction n with
  | zero =>
    intro j hj x H locs M hM hS h_sc ls hl kx
    obtain rfl : j = 13 := by omega
    refine lv_iload_n hx hb dX6_headSum_4 rfl (lv_at hl 3 rfl) ?_
    refine lv_bipush (v := 13) hx hb dX6_headSum_5 (by decide) ?_
    refine lv_icmp_ge (tgt := 26) hx hb dX6_headSum_7 (by decide) (fun c_1 => ?_) (fun c_1 => ?_)
    rotate_left
    · exact absurd c_1 (fun h => h (by decide))
    exact kx H locs ls hM hS hl
  | succ n ih =>
    intro j hj x H locs M hM hS h_sc ls hl kx
    refine lv_iload_n hx hb dX6_headSum_4 rfl (lv_at hl 3 rfl) ?_
    refine lv_bipush (v := 13) hx hb dX6_headSum_5 (by decide) ?_
    refine lv_icmp_ge (tgt := 26) hx hb dX6_headSum_7 (by decide) (fun c_2 => ?_) (fun c_2 => ?_)
    · exact absurd c_2 (nI_ge (b := 13) (by omega) (by decide))
    refine lv_iload_n hx hb dX6_headSum_10 rfl (lv_at hl 2 rfl) ?_
    refine lv_aload_n hx hb dX6_headSum_11 rfl (lv_at hl 0 rfl) ?_
    refine lv_iload_n hx hb dX6_headSum_12 rfl (lv_at hl 1 rfl) ?_
    refine lv_iload_n hx hb dX6_headSum_13 rfl (lv_at hl 3 rfl) ?_
    refine lv_iadd hx hb dX6_headSum_14 ?_
    refine lv_topi (fun z3 ez3 => ?_)
    have ez3 : z3 = (nI j) := ez3.trans (by rw [show (0 : Int32) = nI 0 from rfl, nI_add, Nat.zero_add])
    subst ez3
    refine mm_bald hx hb hK hM 2 h_sc rfl (j := j) (rfl) (by omega) (by decide) dX6_headSum_15 ?_
    refine mm_calli (mm_runS (As := [.int x, .int ((f) (j))]) (rest := []) ⟨hx, hb, hml, hown, hts⟩ (c_X6_add ) (va_cwS 2 hts gX6_headSum_X6_add rfl rfl rfl (by decide +kernel) ⟨Nat.le_of_ble_eq_true rfl, Nat.le_of_ble_eq_true rfl⟩) hK hM rfl hl.1 rfl (Nat.le_of_ble_eq_true rfl) dX6_headSum_16 ⟨Nat.le_of_ble_eq_true rfl, Nat.le_of_ble_eq_true rfl⟩) hS (fun _ h => h) (fun r4 M H locs hp hM hS hz _ => ?_)
    obtain ⟨rfl, hme⟩ := hp
    rw [hme] at hM
    refine lv_istore_n (lv' := [(2, .int (cr_n 8 (x ^^^ (f j &&& 255)))), (0, .ref sc), (1, .int 0), (3, .int (nI j))]) hx hb dX6_headSum_19 rfl hl (by decide) rfl (fun ls hl => ?_)
    refine lv_iinc (v := (nI (j + 1))) (lv' := [(3, .int (nI (j + 1))), (2, .int (cr_n 8 (x ^^^ (f j &&& 255)))), (0, .ref sc), (1, .int 0)]) hx hb dX6_headSum_20 hl (k := 3) rfl (by show _ + (1 : Int32) = _; exact nI_1 j) (by decide) rfl (fun ls hl => ?_)
    refine lv_goto (tgt := 4) hx hb dX6_headSum_23 (by decide) ?_
    exact ih (j + 1) (by omega) _ H locs _ hM hS h_sc ls (lv_sub hl [2, 3, 1, 0] rfl) kx

set_option maxHeartbeats 4000000 in
set_option maxRecDepth 100000 in
theorem c_X6_headSum {l : Launch} {D : va_G} {A : Nat → Prop} {cI cS cB cZ : ClassId} {M : Nat → Option va_E} {sz : Nat} {sc : Nat} {f : Nat → Int32} (h_sc : M sc = some (Sum.inl (cB, 64, .inl (f)) : va_E)) : Met l yX6_headSum wsX6_headSum ({ frames := 1, cells := 0, slots := 0, locals := 23 }) (mm_Pc D A (mm_T cI cS cB cZ) M sz [.ref sc, .int 0]) (mm_Qi D A (fun r M1 => r = cr_b (fun k => f k &&& 255) 0 13 (-1) ^^^ (-1) ∧ M1 = M)) 0 0 A := by
  refine mm_met (cc := cX6_headSum) (maxL := 4) (ret := (some .int)) (by decide) rfl (Nat.le_of_ble_eq_true rfl) ?_
  intro p e s m args below meth c hx hb hr hts hown hlk hin hml hsz hK hM hS ls hl
  subst hsz
  have hl : lv_has ls 4 [(0, .ref sc), (1, .int 0)] := hl
  refine lv_iconst (v := (-1)) hx hb dX6_headSum_0 (by decide) ?_
  refine lv_istore_n (lv' := [(2, .int (-1)), (0, .ref sc), (1, .int 0)]) hx hb dX6_headSum_1 rfl hl (by decide) rfl (fun ls hl => ?_)
  refine lv_iconst (v := 0) hx hb dX6_headSum_2 (by decide) ?_
  refine lv_istore_n (lv' := [(3, .int 0), (2, .int (-1)), (0, .ref sc), (1, .int 0)]) hx hb dX6_headSum_3 rfl hl (by decide) rfl (fun ls hl => ?_)
  refine lp_X6_sum hx hb hts hown hml hK 13 0 rfl _ _ _ _ hM hS h_sc ls (lv_sub hl [2, 3, 1, 0] rfl) (fun H locs ls hM hS hl => ?_)
  refine lv_iload_n hx hb dX6_headSum_26 rfl (lv_at hl 2 rfl) ?_
  refine lv_iconst (v := (-1)) hx hb dX6_headSum_27 (by decide) ?_
  refine lv_ixor hx hb dX6_headSum_28 ?_
  exact mm_iret hx hb hr hlk hM hS (⟨rfl, rfl⟩) dX6_headSum_29

theorem in_X6_set_X6 : ∀ w ∈ u_ws RX6 TX6 34, w ∈ wsX6_set := fun w h => List.mem_cons_of_mem _ (List.mem_append_right _ h)
set_option maxHeartbeats 4000000 in
set_option maxRecDepth 100000 in
theorem c_X6_set {l : Launch} {D : va_G} {A : Nat → Prop} {cI cS cB cZ : ClassId} {M : Nat → Option va_E} {sz : Nat} {mo sc : Nat} {f : Nat → Int32} {y0 y1 y2 y3 y4 y5 y6 y7 y8 y9 y10 y11 y12 y13 y14 y15 y16 y17 y18 y19 y20 y21 y22 y23 y24 y25 y27 y28 y29 y30 y31 y32 y33 : Value} {i : Int32} (j : Nat) (hij : i = nI j) (hj : j < 61) {n : Int32} (h_mo : M mo = some (Sum.inr (6, [y0, y1, y2, y3, y4, y5, y6, y7, y8, y9, y10, y11, y12, y13, y14, y15, y16, y17, y18, y19, y20, y21, y22, y23, y24, y25, .ref sc, y27, y28, y29, y30, y31, y32, y33]) : va_E)) (h_sc : M sc = some (Sum.inl (cB, 64, .inl (f)) : va_E)) : Met l yX6_set wsX6_set ({ frames := 0, cells := 0, slots := 0, locals := 0 }) (mm_Pc D A (mm_T cI cS cB cZ) M sz [.ref mo, .int i, .int n]) (mm_Qv D A (fun M1 => M1 sc = some (Sum.inl (cB, 64, .inl (nm_t f j n)) : va_E) ∧ ∀ q, q ≠ sc → M1 q = M q)) 0 0 A := by
  refine mm_met (cc := cX6_set) (maxL := 4) (ret := none) (by decide) rfl (Nat.le_of_ble_eq_true rfl) ?_
  intro p e s m args below meth c hx hb hr hts hown hlk hin hml hsz hK hM hS ls hl
  subst hsz
  have hl : lv_has ls 4 [(0, .ref mo), (1, .int i), (2, .int n)] := hl
  refine lv_iconst (v := 0) hx hb dX6_set_0 (by decide) ?_
  refine lv_istore_n (lv' := [(3, .int 0), (0, .ref mo), (1, .int i), (2, .int n)]) hx hb dX6_set_1 rfl hl (by decide) rfl (fun ls hl => ?_)
  refine lv_iload_n hx hb dX6_set_2 rfl (lv_at hl 0 rfl) ?_
  refine lv_iconst (v := 4) hx hb dX6_set_3 (by decide) ?_
  refine lv_icmp_ge (tgt := 31) hx hb dX6_set_4 (by decide) (fun c_1 => ?_) (fun c_1 => ?_)
  · exact absurd c_1 (by decide)
  refine lv_aload_n hx hb dX6_set_7 rfl (lv_at hl 1 rfl) ?_
  refine mm_get (v := .ref sc) (ci := 6) (C := RX6) (T := TX6) (N := 34) hx hb hts (in_X6_set_X6) hown hK hM h_mo rfl 26 (by decide) (hts (.fieldLink RX6 65 "GroupLogModel" "sector" "[B") (List.mem_of_getElem? (i := 1) rfl)) rfl dX6_set_8 ?_
  refine lv_iload_n hx hb dX6_set_11 rfl (lv_at hl 2 rfl) ?_
  refine lv_iload_n hx hb dX6_set_12 rfl (lv_at hl 0 rfl) ?_
  refine lv_iadd hx hb dX6_set_13 ?_
  refine lv_iload_n hx hb dX6_set_14 rfl (lv_at hl 3 rfl) ?_
  refine lv_bipush (v := 24) hx hb dX6_set_15 (by decide) ?_
  refine lv_bipush (v := 8) hx hb dX6_set_17 (by decide) ?_
  refine lv_iload_n hx hb dX6_set_19 rfl (lv_at hl 0 rfl) ?_
  refine lv_imul hx hb dX6_set_20 ?_
  refine lv_topi (fun z2 ez2 => ?_)
  have ez2 : z2 = 0 := ez2.trans (by decide)
  subst ez2
  refine lv_isub hx hb dX6_set_21 ?_
  refine lv_topi (fun z3 ez3 => ?_)
  have ez3 : z3 = 24 := ez3.trans (by decide)
  subst ez3
  refine lv_ishr hx hb dX6_set_22 ?_
  refine lv_i2b (v := ((n >>> (24 &&& 31)) : Int32).toInt8.toInt32) hx hb dX6_set_23 rfl ?_
  refine mm_bast hx hb hK hM hS 2 h_sc rfl (j := j + 0) (by rw [hij]; exact nI_add j 0) (by omega) (by decide) dX6_set_24 (fun H locs M hM ha ho hS => ?_)
  have h_mo := (ho mo (mm_ne h_mo h_sc mm_oa)).trans h_mo
  have h_sc : _ = some (Sum.inl (cB, 64, .inl (upd (f) (j + 0) ((vp_nar .byte (((n >>> (24 &&& 31)) : Int32).toInt8.toInt32))))) : va_E) := ha
  have h_sc : _ = some (Sum.inl (cB, 64, .inl (upd (f) (j + 0) (bs_t n 24))) : va_E) := h_sc
  have ho0 := ho
  refine lv_iinc (v := 1) (lv' := [(3, .int 1), (0, .ref mo), (1, .int i), (2, .int n)]) hx hb dX6_set_25 hl (k := 0) rfl (by decide) (by decide) rfl (fun ls hl => ?_)
  refine lv_goto (tgt := 2) hx hb dX6_set_28 (by decide) ?_
  refine lv_iload_n hx hb dX6_set_2 rfl (lv_at hl 0 rfl) ?_
  refine lv_iconst (v := 4) hx hb dX6_set_3 (by decide) ?_
  refine lv_icmp_ge (tgt := 31) hx hb dX6_set_4 (by decide) (fun c_4 => ?_) (fun c_4 => ?_)
  · exact absurd c_4 (by decide)
  refine lv_aload_n hx hb dX6_set_7 rfl (lv_at hl 1 rfl) ?_
  refine mm_get (v := .ref sc) (ci := 6) (C := RX6) (T := TX6) (N := 34) hx hb hts (in_X6_set_X6) hown hK hM h_mo rfl 26 (by decide) (hts (.fieldLink RX6 65 "GroupLogModel" "sector" "[B") (List.mem_of_getElem? (i := 1) rfl)) rfl dX6_set_8 ?_
  refine lv_iload_n hx hb dX6_set_11 rfl (lv_at hl 2 rfl) ?_
  refine lv_iload_n hx hb dX6_set_12 rfl (lv_at hl 0 rfl) ?_
  refine lv_iadd hx hb dX6_set_13 ?_
  refine lv_iload_n hx hb dX6_set_14 rfl (lv_at hl 3 rfl) ?_
  refine lv_bipush (v := 24) hx hb dX6_set_15 (by decide) ?_
  refine lv_bipush (v := 8) hx hb dX6_set_17 (by decide) ?_
  refine lv_iload_n hx hb dX6_set_19 rfl (lv_at hl 0 rfl) ?_
  refine lv_imul hx hb dX6_set_20 ?_
  refine lv_topi (fun z5 ez5 => ?_)
  have ez5 : z5 = 8 := ez5.trans (by decide)
  subst ez5
  refine lv_isub hx hb dX6_set_21 ?_
  refine lv_topi (fun z6 ez6 => ?_)
  have ez6 : z6 = 16 := ez6.trans (by decide)
  subst ez6
  refine lv_ishr hx hb dX6_set_22 ?_
  refine lv_i2b (v := ((n >>> (16 &&& 31)) : Int32).toInt8.toInt32) hx hb dX6_set_23 rfl ?_
  refine mm_bast hx hb hK hM hS 2 h_sc rfl (j := j + 1) (by rw [hij]; exact nI_add j 1) (by omega) (by decide) dX6_set_24 (fun H locs M hM ha ho hS => ?_)
  have h_mo := (ho mo (mm_ne h_mo h_sc mm_oa)).trans h_mo
  have h_sc : _ = some (Sum.inl (cB, 64, .inl (upd (upd (f) (j + 0) (bs_t n 24)) (j + 1) ((vp_nar .byte (((n >>> (16 &&& 31)) : Int32).toInt8.toInt32))))) : va_E) := ha
  have h_sc : _ = some (Sum.inl (cB, 64, .inl (upd (upd (f) (j + 0) (bs_t n 24)) (j + 1) (bs_t n 16))) : va_E) := h_sc
  have ho1 := ho
  refine lv_iinc (v := 2) (lv' := [(3, .int 2), (0, .ref mo), (1, .int i), (2, .int n)]) hx hb dX6_set_25 hl (k := 0) rfl (by decide) (by decide) rfl (fun ls hl => ?_)
  refine lv_goto (tgt := 2) hx hb dX6_set_28 (by decide) ?_
  refine lv_iload_n hx hb dX6_set_2 rfl (lv_at hl 0 rfl) ?_
  refine lv_iconst (v := 4) hx hb dX6_set_3 (by decide) ?_
  refine lv_icmp_ge (tgt := 31) hx hb dX6_set_4 (by decide) (fun c_7 => ?_) (fun c_7 => ?_)
  · exact absurd c_7 (by decide)
  refine lv_aload_n hx hb dX6_set_7 rfl (lv_at hl 1 rfl) ?_
  refine mm_get (v := .ref sc) (ci := 6) (C := RX6) (T := TX6) (N := 34) hx hb hts (in_X6_set_X6) hown hK hM h_mo rfl 26 (by decide) (hts (.fieldLink RX6 65 "GroupLogModel" "sector" "[B") (List.mem_of_getElem? (i := 1) rfl)) rfl dX6_set_8 ?_
  refine lv_iload_n hx hb dX6_set_11 rfl (lv_at hl 2 rfl) ?_
  refine lv_iload_n hx hb dX6_set_12 rfl (lv_at hl 0 rfl) ?_
  refine lv_iadd hx hb dX6_set_13 ?_
  refine lv_iload_n hx hb dX6_set_14 rfl (lv_at hl 3 rfl) ?_
  refine lv_bipush (v := 24) hx hb dX6_set_15 (by decide) ?_
  refine lv_bipush (v := 8) hx hb dX6_set_17 (by decide) ?_
  refine lv_iload_n hx hb dX6_set_19 rfl (lv_at hl 0 rfl) ?_
  refine lv_imul hx hb dX6_set_20 ?_
  refine lv_topi (fun z8 ez8 => ?_)
  have ez8 : z8 = 16 := ez8.trans (by decide)
  subst ez8
  refine lv_isub hx hb dX6_set_21 ?_
  refine lv_topi (fun z9 ez9 => ?_)
  have ez9 : z9 = 8 := ez9.trans (by decide)
  subst ez9
  refine lv_ishr hx hb dX6_set_22 ?_
  refine lv_i2b (v := ((n >>> (8 &&& 31)) : Int32).toInt8.toInt32) hx hb dX6_set_23 rfl ?_
  refine mm_bast hx hb hK hM hS 2 h_sc rfl (j := j + 2) (by rw [hij]; exact nI_add j 2) (by omega) (by decide) dX6_set_24 (fun H locs M hM ha ho hS => ?_)
  have h_mo := (ho mo (mm_ne h_mo h_sc mm_oa)).trans h_mo
  have h_sc : _ = some (Sum.inl (cB, 64, .inl (upd (upd (upd (f) (j + 0) (bs_t n 24)) (j + 1) (bs_t n 16)) (j + 2) ((vp_nar .byte (((n >>> (8 &&& 31)) : Int32).toInt8.toInt32))))) : va_E) := ha
  have h_sc : _ = some (Sum.inl (cB, 64, .inl (upd (upd (upd (f) (j + 0) (bs_t n 24)) (j + 1) (bs_t n 16)) (j + 2) (bs_t n 8))) : va_E) := h_sc
  have ho2 := ho
  refine lv_iinc (v := 3) (lv' := [(3, .int 3), (0, .ref mo), (1, .int i), (2, .int n)]) hx hb dX6_set_25 hl (k := 0) rfl (by decide) (by decide) rfl (fun ls hl => ?_)
  refine lv_goto (tgt := 2) hx hb dX6_set_28 (by decide) ?_
  refine lv_iload_n hx hb dX6_set_2 rfl (lv_at hl 0 rfl) ?_
  refine lv_iconst (v := 4) hx hb dX6_set_3 (by decide) ?_
  refine lv_icmp_ge (tgt := 31) hx hb dX6_set_4 (by decide) (fun c_10 => ?_) (fun c_10 => ?_)
  · exact absurd c_10 (by decide)
  refine lv_aload_n hx hb dX6_set_7 rfl (lv_at hl 1 rfl) ?_
  refine mm_get (v := .ref sc) (ci := 6) (C := RX6) (T := TX6) (N := 34) hx hb hts (in_X6_set_X6) hown hK hM h_mo rfl 26 (by decide) (hts (.fieldLink RX6 65 "GroupLogModel" "sector" "[B") (List.mem_of_getElem? (i := 1) rfl)) rfl dX6_set_8 ?_
  refine lv_iload_n hx hb dX6_set_11 rfl (lv_at hl 2 rfl) ?_
  refine lv_iload_n hx hb dX6_set_12 rfl (lv_at hl 0 rfl) ?_
  refine lv_iadd hx hb dX6_set_13 ?_
  refine lv_iload_n hx hb dX6_set_14 rfl (lv_at hl 3 rfl) ?_
  refine lv_bipush (v := 24) hx hb dX6_set_15 (by decide) ?_
  refine lv_bipush (v := 8) hx hb dX6_set_17 (by decide) ?_
  refine lv_iload_n hx hb dX6_set_19 rfl (lv_at hl 0 rfl) ?_
  refine lv_imul hx hb dX6_set_20 ?_
  refine lv_topi (fun z11 ez11 => ?_)
  have ez11 : z11 = 24 := ez11.trans (by decide)
  subst ez11
  refine lv_isub hx hb dX6_set_21 ?_
  refine lv_topi (fun z12 ez12 => ?_)
  have ez12 : z12 = 0 := ez12.trans (by decide)
  subst ez12
  refine lv_ishr hx hb dX6_set_22 ?_
  refine lv_i2b (v := ((n >>> (0 &&& 31)) : Int32).toInt8.toInt32) hx hb dX6_set_23 rfl ?_
  refine mm_bast hx hb hK hM hS 2 h_sc rfl (j := j + 3) (by rw [hij]; exact nI_add j 3) (by omega) (by decide) dX6_set_24 (fun H locs M hM ha ho hS => ?_)
  have h_mo := (ho mo (mm_ne h_mo h_sc mm_oa)).trans h_mo
  have h_sc : _ = some (Sum.inl (cB, 64, .inl (upd (upd (upd (upd (f) (j + 0) (bs_t n 24)) (j + 1) (bs_t n 16)) (j + 2) (bs_t n 8)) (j + 3) ((vp_nar .byte (((n >>> (0 &&& 31)) : Int32).toInt8.toInt32))))) : va_E) := ha
  have h_sc : _ = some (Sum.inl (cB, 64, .inl (upd (upd (upd (upd (f) (j + 0) (bs_t n 24)) (j + 1) (bs_t n 16)) (j + 2) (bs_t n 8)) (j + 3) (bs_t n 0))) : va_E) := h_sc
  have ho3 := ho
  refine lv_iinc (v := 4) (lv' := [(3, .int 4), (0, .ref mo), (1, .int i), (2, .int n)]) hx hb dX6_set_25 hl (k := 0) rfl (by decide) (by decide) rfl (fun ls hl => ?_)
  refine lv_goto (tgt := 2) hx hb dX6_set_28 (by decide) ?_
  refine lv_iload_n hx hb dX6_set_2 rfl (lv_at hl 0 rfl) ?_
  refine lv_iconst (v := 4) hx hb dX6_set_3 (by decide) ?_
  refine lv_icmp_ge (tgt := 31) hx hb dX6_set_4 (by decide) (fun c_13 => ?_) (fun c_13 => ?_)
  rotate_left
  · exact absurd c_13 (by decide)
  exact mm_vret hx hb hr hlk hM hS (⟨h_sc, fun q hq => by rw [ho3 q hq, ho2 q hq, ho1 q hq, ho0 q hq]⟩) dX6_set_31

theorem in_X6_clear_X6 : ∀ w ∈ u_ws RX6 TX6 34, w ∈ wsX6_clear := fun w h => List.mem_cons_of_mem _ (List.mem_append_right _ h)
set_option maxHeartbeats 4000000 in
set_option maxRecDepth 100000 in
theorem lp_X6_clear {p : Program} {l : Launch} {e : Env} {s : State} {m : MethodId} {args : Array Value} {below : List Frame} {meth : Method} {c : Code} {Q : State → Prop} {D : va_G} {A : Nat → Prop} {cI cS cB cZ : ClassId} {cells slots : Nat} {R : Room} (hx : p.tables.exec = Jvm.exec) (hb : c.code = cX6_clear) (hts : ∀ w ∈ wsX6_clear, w.before args s = true) (hown : s.vm.findClass RX6 = some m.cls) (hml : c.maxLocals = 2) (hK : mm_K D (mm_T cI cS cB cZ) s) {m0 sc : Nat} {y0 y1 y2 y3 y4 y5 y6 y7 y8 y9 y10 y11 y12 y13 y14 y15 y16 y17 y18 y19 y20 y21 y22 y23 y24 y25 y27 y28 y29 y30 y31 y32 y33 : Value} :
    ∀ (n i : Nat), i + n = 64 → ∀ (M : Nat → Option va_E) (H : Heap) (locs : List Loc) (f : Nat → Int32), mm_W D A M H → va_S A s.heap H locs → M m0 = some (Sum.inr (6, [y0, y1, y2, y3, y4, y5, y6, y7, y8, y9, y10, y11, y12, y13, y14, y15, y16, y17, y18, y19, y20, y21, y22, y23, y24, y25, .ref sc, y27, y28, y29, y30, y31, y32, y33]) : va_E) → M sc = some (Sum.inl (cB, 64, .inl (f)) : va_E) → (∀ k, k < i → f k = 0) → (∀ (M1 : Nat → Option va_E) (H1 : Heap) (locs1 : List Loc) (f1 : Nat → Int32) (ls1 : Array Slot), mm_W D A M1 H1 → va_S A s.heap H1 locs1 → M1 sc = some (Sum.inl (cB, 64, .inl f1) : va_E) → (∀ k, k < 64 → f1 k = 0) → (∀ q, q ≠ sc → M1 q = M q) → W p l e R s m args below meth c H1 locs1 cells slots Q (F0 m 21 ls1 [])) → ∀ ls : Array Slot, lv_has ls 2 [(0, .ref m0), (1, .int (nI i))] → W p l e R s m args below meth c H locs cells slots Q (F0 m 2 ls []) := by
  intro n
  induction n with
  | zero =>
    intro i hi M H locs f hM hS h_m0 h_sc hf kx ls hl
    obtain rfl : i = 64 := by omega
    refine lv_iload_n hx hb dX6_clear_2 rfl (lv_at hl 1 rfl) ?_
    refine lv_bipush (v := 64) hx hb dX6_clear_3 (by decide) ?_
    refine lv_icmp_ge (tgt := 21) hx hb dX6_clear_5 (by decide) (fun c_1 => ?_) (fun c_1 => ?_)
    rotate_left
    · exact absurd c_1 (fun h => h (by decide))
    exact kx M H locs f ls hM hS h_sc hf (fun q _ => rfl)
  | succ n ih =>
    intro i hi M H locs f hM hS h_m0 h_sc hf kx ls hl
    refine lv_iload_n hx hb dX6_clear_2 rfl (lv_at hl 1 rfl) ?_
    refine lv_bipush (v := 64) hx hb dX6_clear_3 (by decide) ?_
    refine lv_icmp_ge (tgt := 21) hx hb dX6_clear_5 (by decide) (fun c_2 => ?_) (fun c_2 => ?_)
    · exact absurd c_2 (nI_ge (b := 64) (by omega) (by decide))
    refine lv_aload_n hx hb dX6_clear_8 rfl (lv_at hl 0 rfl) ?_
    refine mm_get (v := .ref sc) (ci := 6) (C := RX6) (T := TX6) (N := 34) hx hb hts (in_X6_clear_X6) hown hK hM h_m0 rfl 26 (by decide) (hts (.fieldLink RX6 65 "GroupLogModel" "sector" "[B") (List.mem_of_getElem? (i := 1) rfl)) rfl dX6_clear_9 ?_
    refine lv_iload_n hx hb dX6_clear_12 rfl (lv_at hl 1 rfl) ?_
    refine lv_iconst (v := 0) hx hb dX6_clear_13 (by decide) ?_
    refine mm_bast hx hb hK hM hS 2 h_sc rfl (j := i) (rfl) (by omega) (by decide) dX6_clear_14 (fun H locs M hM ha ho hS => ?_)
    have h_m0 := (ho m0 (mm_ne h_m0 h_sc mm_oa)).trans h_m0
    have h_sc : _ = some (Sum.inl (cB, 64, .inl (upd (f) (i) ((vp_nar .byte (0))))) : va_E) := ha
    refine lv_iinc (v := (nI (i + 1))) (lv' := [(1, .int (nI (i + 1))), (0, .ref m0)]) hx hb dX6_clear_15 hl (k := 1) rfl (by show _ + (1 : Int32) = _; exact nI_1 i) (by decide) rfl (fun ls hl => ?_)
    refine lv_goto (tgt := 2) hx hb dX6_clear_18 (by decide) ?_
    exact ih (i + 1) (by omega) M H locs _ hM hS h_m0 h_sc (fun k hk => if h : k = i then by rw [h]; show (if i = i then _ else _) = _; rw [if_pos rfl]; rfl else by show (if k = i then _ else _) = _; rw [if_neg h]; exact hf k (by omega)) (fun M1 H1 locs1 f1 ls1 g1 g2 g3 g4 g5 => kx M1 H1 locs1 f1 ls1 g1 g2 g3 g4 (fun q hq => by rw [g5 q hq, ho q hq])) ls (lv_sub hl [1, 0] rfl)

set_option maxHeartbeats 4000000 in
set_option maxRecDepth 100000 in
theorem c_X6_clear {l : Launch} {D : va_G} {A : Nat → Prop} {cI cS cB cZ : ClassId} {M : Nat → Option va_E} {sz : Nat} {mo sc : Nat} {f : Nat → Int32} {y0 y1 y2 y3 y4 y5 y6 y7 y8 y9 y10 y11 y12 y13 y14 y15 y16 y17 y18 y19 y20 y21 y22 y23 y24 y25 y27 y28 y29 y30 y31 y32 y33 : Value} (h_mo : M mo = some (Sum.inr (6, [y0, y1, y2, y3, y4, y5, y6, y7, y8, y9, y10, y11, y12, y13, y14, y15, y16, y17, y18, y19, y20, y21, y22, y23, y24, y25, .ref sc, y27, y28, y29, y30, y31, y32, y33]) : va_E)) (h_sc : M sc = some (Sum.inl (cB, 64, .inl (f)) : va_E)) : Met l yX6_clear wsX6_clear ({ frames := 0, cells := 0, slots := 0, locals := 0 }) (mm_Pc D A (mm_T cI cS cB cZ) M sz [.ref mo]) (mm_Qv D A (fun M1 => M1 sc = some (Sum.inl (cB, 64, .inl (fun _ => 0)) : va_E) ∧ ∀ q, q ≠ sc → M1 q = M q)) 0 0 A := by
  refine mm_met (cc := cX6_clear) (maxL := 2) (ret := none) (by decide) rfl (Nat.le_of_ble_eq_true rfl) ?_
  intro p e s m args below meth c hx hb hr hts hown hlk hin hml hsz hK hM hS ls hl
  subst hsz
  have hl : lv_has ls 2 [(0, .ref mo)] := hl
  refine lv_iconst (v := 0) hx hb dX6_clear_0 (by decide) ?_
  refine lv_istore_n (lv' := [(1, .int 0), (0, .ref mo)]) hx hb dX6_clear_1 rfl hl (by decide) rfl (fun ls hl => ?_)
  refine lp_X6_clear (m0 := mo) (sc := sc) hx hb hts hown hml hK 64 0 rfl _ _ _ f hM hS h_mo h_sc (fun k hk => absurd hk (by omega)) (fun M1 H locs f1 ls hM hS h_sc hf ho => ?_) ls (lv_sub hl [1, 0] rfl)
  obtain ⟨M2, hM, g1, g2⟩ := hM.ext h_sc (fun _ => 0) hf
  exact mm_vret hx hb hr hlk hM hS (⟨g1, fun q hq => by rw [g2 q hq, ho q hq]⟩) dX6_clear_21

theorem in_X6_makeHead_X6 : ∀ w ∈ u_ws RX6 TX6 34, w ∈ wsX6_makeHead := fun w h => List.mem_cons_of_mem _ (List.mem_append_right _ h)
set_option maxHeartbeats 4000000 in
set_option maxRecDepth 100000 in
theorem c_X6_makeHead {l : Launch} {D : va_G} {A : Nat → Prop} {cI cS cB cZ : ClassId} {M : Nat → Option va_E} {sz : Nat} {mo sc : Nat} {f : Nat → Int32} {v sr rc pl : Int32} {y0 y1 y2 y3 y4 y5 y6 y7 y8 y9 y10 y11 y12 y13 y14 y15 y20 y21 y22 y23 y24 y25 y27 y28 y29 y30 y31 y32 y33 : Value} (h_mo : M mo = some (Sum.inr (6, [y0, y1, y2, y3, y4, y5, y6, y7, y8, y9, y10, y11, y12, y13, y14, y15, .int v, .int sr, .int rc, .int pl, y20, y21, y22, y23, y24, y25, .ref sc, y27, y28, y29, y30, y31, y32, y33]) : va_E)) (h_sc : M sc = some (Sum.inl (cB, 64, .inl (f)) : va_E)) : Met l yX6_makeHead wsX6_makeHead ({ frames := 2, cells := 0, slots := 0, locals := 46 }) (mm_Pc D A (mm_T cI cS cB cZ) M sz [.ref mo]) (mm_Qv D A (fun M1 => M1 sc = some (Sum.inl (cB, 64, .inl (mh_f v sr rc pl)) : va_E) ∧ ∀ q, q ≠ sc → M1 q = M q)) 0 0 A := by
  refine mm_met (cc := cX6_makeHead) (maxL := 1) (ret := none) (by decide) rfl (Nat.le_of_ble_eq_true rfl) ?_
  intro p e s m args below meth c hx hb hr hts hown hlk hin hml hsz hK hM hS ls hl
  subst hsz
  have hl : lv_has ls 1 [(0, .ref mo)] := hl
  refine lv_aload_n hx hb dX6_makeHead_0 rfl (lv_at hl 0 rfl) ?_
  refine mm_callv (mm_runV (As := []) (rest := []) ⟨hx, hb, hml, hown, hts⟩ (c_X6_clear h_mo h_sc) (cwV 0 hts gX6_makeHead_X6_clear rfl rfl rfl (by decide +kernel) ⟨Nat.le_of_ble_eq_true rfl, Nat.le_of_ble_eq_true rfl⟩) hK hM h_mo rfl rfl hl.1 rfl (Nat.le_of_ble_eq_true rfl) dX6_makeHead_1 ⟨Nat.le_of_ble_eq_true rfl, Nat.le_of_ble_eq_true rfl⟩) hS (fun _ h => h) (fun M H locs hp hM hS hz _ => ?_)
  obtain ⟨ha, ho0⟩ := hp
  have h_mo := (ho0 mo (mm_ne h_mo h_sc mm_oa)).trans h_mo
  have h_sc : _ = some (Sum.inl (cB, 64, .inl (fun _ => 0)) : va_E) := ha
  refine lv_aload_n hx hb dX6_makeHead_4 rfl (lv_at hl 0 rfl) ?_
  refine lv_iconst (v := 0) hx hb dX6_makeHead_5 (by decide) ?_
  refine lv_aload_n hx hb dX6_makeHead_6 rfl (lv_at hl 0 rfl) ?_
  refine mm_get (v := .int v) (ci := 6) (C := RX6) (T := TX6) (N := 34) hx hb hts (in_X6_makeHead_X6) hown hK hM h_mo rfl 16 (by decide) (hts (.fieldLink RX6 38 "GroupLogModel" "version" "I") (List.mem_of_getElem? (i := 1) rfl)) rfl dX6_makeHead_7 ?_
  refine mm_callv (mm_runV (As := [.int 0, .int v]) (rest := []) ⟨hx, hb, hml, hown, hts⟩ (c_X6_set 0 rfl (by decide) h_mo h_sc) (cwV 2 hts gX6_makeHead_X6_set rfl rfl rfl (by decide +kernel) ⟨Nat.le_of_ble_eq_true rfl, Nat.le_of_ble_eq_true rfl⟩) hK hM h_mo rfl rfl hl.1 rfl (Nat.le_of_ble_eq_true rfl) dX6_makeHead_10 ⟨Nat.le_of_ble_eq_true rfl, Nat.le_of_ble_eq_true rfl⟩) hS (fun _ h => h) (fun M H locs hp hM hS hz _ => ?_)
  obtain ⟨ha, ho1⟩ := hp
  have h_mo := (ho1 mo (mm_ne h_mo h_sc mm_oa)).trans h_mo
  have h_sc : _ = some (Sum.inl (cB, 64, .inl (nm_t (fun _ => 0) 0 v)) : va_E) := ha
  refine lv_aload_n hx hb dX6_makeHead_13 rfl (lv_at hl 0 rfl) ?_
  refine lv_iconst (v := 4) hx hb dX6_makeHead_14 (by decide) ?_
  refine lv_aload_n hx hb dX6_makeHead_15 rfl (lv_at hl 0 rfl) ?_
  refine mm_get (v := .int sr) (ci := 6) (C := RX6) (T := TX6) (N := 34) hx hb hts (in_X6_makeHead_X6) hown hK hM h_mo rfl 17 (by decide) (hts (.fieldLink RX6 41 "GroupLogModel" "firstSerial" "I") (List.mem_of_getElem? (i := 2) rfl)) rfl dX6_makeHead_16 ?_
  refine mm_callv (mm_runV (As := [.int 4, .int sr]) (rest := []) ⟨hx, hb, hml, hown, hts⟩ (c_X6_set 4 rfl (by decide) h_mo h_sc) (cwV 2 hts gX6_makeHead_X6_set rfl rfl rfl (by decide +kernel) ⟨Nat.le_of_ble_eq_true rfl, Nat.le_of_ble_eq_true rfl⟩) hK hM h_mo rfl rfl hl.1 rfl (Nat.le_of_ble_eq_true rfl) dX6_makeHead_19 ⟨Nat.le_of_ble_eq_true rfl, Nat.le_of_ble_eq_true rfl⟩) hS (fun _ h => h) (fun M H locs hp hM hS hz _ => ?_)
  obtain ⟨ha, ho2⟩ := hp
  have h_mo := (ho2 mo (mm_ne h_mo h_sc mm_oa)).trans h_mo
  have h_sc : _ = some (Sum.inl (cB, 64, .inl (nm_t (nm_t (fun _ => 0) 0 v) 4 sr)) : va_E) := ha
  refine lv_aload_n hx hb dX6_makeHead_22 rfl (lv_at hl 0 rfl) ?_
  refine lv_bipush (v := 8) hx hb dX6_makeHead_23 (by decide) ?_
  refine lv_aload_n hx hb dX6_makeHead_25 rfl (lv_at hl 0 rfl) ?_
  refine mm_get (v := .int rc) (ci := 6) (C := RX6) (T := TX6) (N := 34) hx hb hts (in_X6_makeHead_X6) hown hK hM h_mo rfl 18 (by decide) (hts (.fieldLink RX6 44 "GroupLogModel" "firstRecord" "I") (List.mem_of_getElem? (i := 3) rfl)) rfl dX6_makeHead_26 ?_
  refine mm_callv (mm_runV (As := [.int 8, .int rc]) (rest := []) ⟨hx, hb, hml, hown, hts⟩ (c_X6_set 8 rfl (by decide) h_mo h_sc) (cwV 2 hts gX6_makeHead_X6_set rfl rfl rfl (by decide +kernel) ⟨Nat.le_of_ble_eq_true rfl, Nat.le_of_ble_eq_true rfl⟩) hK hM h_mo rfl rfl hl.1 rfl (Nat.le_of_ble_eq_true rfl) dX6_makeHead_29 ⟨Nat.le_of_ble_eq_true rfl, Nat.le_of_ble_eq_true rfl⟩) hS (fun _ h => h) (fun M H locs hp hM hS hz _ => ?_)
  obtain ⟨ha, ho3⟩ := hp
  have h_mo := (ho3 mo (mm_ne h_mo h_sc mm_oa)).trans h_mo
  have h_sc : _ = some (Sum.inl (cB, 64, .inl (nm_t (nm_t (nm_t (fun _ => 0) 0 v) 4 sr) 8 rc)) : va_E) := ha
  refine lv_aload_n hx hb dX6_makeHead_32 rfl (lv_at hl 0 rfl) ?_
  refine mm_get (v := .ref sc) (ci := 6) (C := RX6) (T := TX6) (N := 34) hx hb hts (in_X6_makeHead_X6) hown hK hM h_mo rfl 26 (by decide) (hts (.fieldLink RX6 65 "GroupLogModel" "sector" "[B") (List.mem_of_getElem? (i := 4) rfl)) rfl dX6_makeHead_33 ?_
  refine lv_bipush (v := 12) hx hb dX6_makeHead_36 (by decide) ?_
  refine lv_aload_n hx hb dX6_makeHead_38 rfl (lv_at hl 0 rfl) ?_
  refine mm_get (v := .int pl) (ci := 6) (C := RX6) (T := TX6) (N := 34) hx hb hts (in_X6_makeHead_X6) hown hK hM h_mo rfl 19 (by decide) (hts (.fieldLink RX6 47 "GroupLogModel" "place" "I") (List.mem_of_getElem? (i := 5) rfl)) rfl dX6_makeHead_39 ?_
  refine lv_i2b (v := (pl : Int32).toInt8.toInt32) hx hb dX6_makeHead_42 rfl ?_
  refine mm_bast hx hb hK hM hS 2 h_sc rfl (j := 12) (rfl) (by decide) (by decide) dX6_makeHead_43 (fun H locs M hM ha ho hS => ?_)
  have h_mo := (ho mo (mm_ne h_mo h_sc mm_oa)).trans h_mo
  have h_sc : _ = some (Sum.inl (cB, 64, .inl (upd (nm_t (nm_t (nm_t (fun _ => 0) 0 v) 4 sr) 8 rc) (12) ((vp_nar .byte ((pl : Int32).toInt8.toInt32))))) : va_E) := ha
  have ho4 := ho
  have h_sc : _ = some (Sum.inl (cB, 64, .inl (mh_p v sr rc pl)) : va_E) := h_sc
  refine lv_aload_n hx hb dX6_makeHead_44 rfl (lv_at hl 0 rfl) ?_
  refine lv_bipush (v := 13) hx hb dX6_makeHead_45 (by decide) ?_
  refine lv_aload_n hx hb dX6_makeHead_47 rfl (lv_at hl 0 rfl) ?_
  refine mm_get (v := .ref sc) (ci := 6) (C := RX6) (T := TX6) (N := 34) hx hb hts (in_X6_makeHead_X6) hown hK hM h_mo rfl 26 (by decide) (hts (.fieldLink RX6 65 "GroupLogModel" "sector" "[B") (List.mem_of_getElem? (i := 4) rfl)) rfl dX6_makeHead_48 ?_
  refine lv_iconst (v := 0) hx hb dX6_makeHead_51 (by decide) ?_
  refine mm_calli (mm_runS (As := [.ref sc, .int 0]) (rest := [.int 13, .ref mo]) ⟨hx, hb, hml, hown, hts⟩ (c_X6_headSum h_sc) (va_cwS 2 hts gX6_makeHead_X6_headSum rfl rfl rfl (by decide +kernel) ⟨Nat.le_of_ble_eq_true rfl, Nat.le_of_ble_eq_true rfl⟩) hK hM rfl hl.1 rfl (Nat.le_of_ble_eq_true rfl) dX6_makeHead_52 ⟨Nat.le_of_ble_eq_true rfl, Nat.le_of_ble_eq_true rfl⟩) hS (fun _ h => h) (fun r1 M H locs hp hM hS hz _ => ?_)
  obtain ⟨rfl, hme⟩ := hp
  rw [hme] at hM
  refine mm_callv (mm_runV (As := [.int 13, .int (cr_b (fun k => mh_p v sr rc pl k &&& 255) 0 13 (-1) ^^^ (-1))]) (rest := []) ⟨hx, hb, hml, hown, hts⟩ (c_X6_set 13 rfl (by decide) h_mo h_sc) (cwV 2 hts gX6_makeHead_X6_set rfl rfl rfl (by decide +kernel) ⟨Nat.le_of_ble_eq_true rfl, Nat.le_of_ble_eq_true rfl⟩) hK hM h_mo rfl rfl hl.1 rfl (Nat.le_of_ble_eq_true rfl) dX6_makeHead_55 ⟨Nat.le_of_ble_eq_true rfl, Nat.le_of_ble_eq_true rfl⟩) hS (fun _ h => h) (fun M H locs hp hM hS hz _ => ?_)
  obtain ⟨ha, ho5⟩ := hp
  have h_mo := (ho5 mo (mm_ne h_mo h_sc mm_oa)).trans h_mo
  have h_sc : _ = some (Sum.inl (cB, 64, .inl (mh_f v sr rc pl)) : va_E) := ha
  exact mm_vret hx hb hr hlk hM hS (⟨h_sc, fun q hq => by rw [ho5 q hq, ho4 q hq, ho3 q hq, ho2 q hq, ho1 q hq, ho0 q hq]⟩) dX6_makeHead_58
end
section
theorem cp_in {f : Nat → Int32} {fs : Nat → Int32} {i : Nat} (hf : ∀ k, f k = if k < i then vp_nar .byte (fs k) else 0) (k : Nat) : upd f i (vp_nar .byte (fs i)) k = if k < i + 1 then vp_nar .byte (fs k) else 0 := by
  show (if k = i then _ else f k) = _
  by_cases h : k = i
  · subst h
    rw [if_pos rfl, if_pos (by omega)]
  · rw [if_neg h, hf k]
    by_cases h2 : k < i
    · rw [if_pos h2, if_pos (by omega)]
    · rw [if_neg h2, if_neg (by omega)]

theorem in_X6_init_X6 : ∀ w ∈ u_ws RX6 TX6 34, w ∈ wsX6_init := fun w h => List.mem_cons_of_mem _ (List.mem_append_right _ h)
set_option maxHeartbeats 4000000 in
set_option maxRecDepth 100000 in
theorem lp_X6_init {p : Program} {l : Launch} {e : Env} {s : State} {m : MethodId} {args : Array Value} {below : List Frame} {meth : Method} {c : Code} {Q : State → Prop} {D : va_G} {A : Nat → Prop} {cI cS cB cZ : ClassId} {cells slots : Nat} {R : Room} (hx : p.tables.exec = Jvm.exec) (hb : c.code = cX6_init) (hts : ∀ w ∈ wsX6_init, w.before args s = true) (hown : s.vm.findClass RX6 = some m.cls) (hml : c.maxLocals = 2) (hK : mm_K D (mm_T cI cS cB cZ) s) {m0 dk it tq qq qg r1 r2 r3 sc hd : Nat} {fs : Nat → Int32} :
    ∀ (n i : Nat), i + n = 64 → ∀ (M : Nat → Option va_E) (H : Heap) (locs : List Loc) (f : Nat → Int32), mm_W D A M H → va_S A s.heap H locs → M m0 = some (Sum.inr (6, [.ref dk, .ref it, .int 1, .int (-1), .int 0, .int 10, .int 0, .int 0, .ref tq, .int 0, .ref qq, .int 0, .ref qg, .int 0, .int 0, .int 0, .int 1, .int 1, .int 1, .int 2, .int 2, .int 1, .int 0, .ref r1, .ref r2, .ref r3, .ref sc, .int 0, .ref hd, .int 0, .int 0, .int 0, .int 0, .int 0]) : va_E) → M dk = some (Sum.inl (cB, 4096, .inl (f)) : va_E) → M sc = some (Sum.inl (cB, 64, .inl (fs)) : va_E) → (∀ k, f k = if k < i then vp_nar .byte (fs k) else 0) → (∀ (M1 : Nat → Option va_E) (H1 : Heap) (locs1 : List Loc) (ls1 : Array Slot), mm_W D A M1 H1 → va_S A s.heap H1 locs1 → M1 dk = some (Sum.inl (cB, 4096, .inl (fun k => if k < 64 then vp_nar .byte (fs k) else 0)) : va_E) → (∀ q, q ≠ dk → M1 q = M q) → W p l e R s m args below meth c H1 locs1 cells slots Q (F0 m 166 ls1 [])) → ∀ ls : Array Slot, lv_has ls 2 [(0, .ref m0), (1, .int (nI i))] → W p l e R s m args below meth c H locs cells slots Q (F0 m 142 ls []) := by
  intro n
  induction n with
  | zero =>
    intro i hi M H locs f hM hS h_m0 h_dk h_sc hf kx ls hl
    obtain rfl : i = 64 := by omega
    refine lv_iload_n hx hb dX6_init_142 rfl (lv_at hl 1 rfl) ?_
    refine lv_bipush (v := 64) hx hb dX6_init_143 (by decide) ?_
    refine lv_icmp_ge (tgt := 166) hx hb dX6_init_145 (by decide) (fun c_1 => ?_) (fun c_1 => ?_)
    rotate_left
    · exact absurd c_1 (fun h => h (by decide))
    obtain rfl : f = fun k => if k < 64 then vp_nar .byte (fs k) else 0 := funext hf
    exact kx M H locs ls hM hS h_dk (fun q _ => rfl)
  | succ n ih =>
    intro i hi M H locs f hM hS h_m0 h_dk h_sc hf kx ls hl
    refine lv_iload_n hx hb dX6_init_142 rfl (lv_at hl 1 rfl) ?_
    refine lv_bipush (v := 64) hx hb dX6_init_143 (by decide) ?_
    refine lv_icmp_ge (tgt := 166) hx hb dX6_init_145 (by decide) (fun c_2 => ?_) (fun c_2 => ?_)
    · exact absurd c_2 (nI_ge (b := 64) (by omega) (by decide))
    refine lv_aload_n hx hb dX6_init_148 rfl (lv_at hl 0 rfl) ?_
    refine mm_get (v := .ref dk) (ci := 6) (C := RX6) (T := TX6) (N := 34) hx hb hts (in_X6_init_X6) hown hK hM h_m0 rfl 0 (by decide) (hts (.fieldLink RX6 7 "GroupLogModel" "disk" "[B") (List.mem_of_getElem? (i := 5) rfl)) rfl dX6_init_149 ?_
    refine lv_iload_n hx hb dX6_init_152 rfl (lv_at hl 1 rfl) ?_
    refine lv_aload_n hx hb dX6_init_153 rfl (lv_at hl 0 rfl) ?_
    refine mm_get (v := .ref sc) (ci := 6) (C := RX6) (T := TX6) (N := 34) hx hb hts (in_X6_init_X6) hown hK hM h_m0 rfl 26 (by decide) (hts (.fieldLink RX6 65 "GroupLogModel" "sector" "[B") (List.mem_of_getElem? (i := 24) rfl)) rfl dX6_init_154 ?_
    refine lv_iload_n hx hb dX6_init_157 rfl (lv_at hl 1 rfl) ?_
    refine mm_bald hx hb hK hM 2 h_sc rfl (j := i) (rfl) (by omega) (by decide) dX6_init_158 ?_
    refine mm_bast hx hb hK hM hS 2 h_dk rfl (j := i) (rfl) (by omega) (by decide) dX6_init_159 (fun H locs M hM ha ho hS => ?_)
    have h_m0 := (ho m0 (mm_ne h_m0 h_dk mm_oa)).trans h_m0
    have h_sc := (ho sc (mm_ne h_sc h_dk (mm_an (by decide)))).trans h_sc
    have h_dk : _ = some (Sum.inl (cB, 4096, .inl (upd (f) (i) ((vp_nar .byte (((fs) (i))))))) : va_E) := ha
    refine lv_iinc (v := (nI (i + 1))) (lv' := [(1, .int (nI (i + 1))), (0, .ref m0)]) hx hb dX6_init_160 hl (k := 1) rfl (by show _ + (1 : Int32) = _; exact nI_1 i) (by decide) rfl (fun ls hl => ?_)
    refine lv_goto (tgt := 142) hx hb dX6_init_163 (by decide) ?_
    exact ih (i + 1) (by omega) M H locs _ hM hS h_m0 h_dk h_sc (fun k => cp_in hf k) (fun M1 H1 locs1 ls1 g1 g2 g3 g5 => kx M1 H1 locs1 ls1 g1 g2 g3 (fun q hq => by rw [g5 q hq, ho q hq])) ls (lv_sub hl [1, 0] rfl)

set_option maxHeartbeats 4000000 in
set_option maxRecDepth 100000 in
/-- GroupLogModel() -/
theorem c_X6_init {l : Launch} {D : va_G} {A : Nat → Prop} {cI cS cB cZ : ClassId} {M : Nat → Option va_E} {sz : Nat} (hA : ∀ q, sz ≤ q → A q) {mo : Nat} (h_mo : M mo = some (Sum.inr (6, [.null, .null, .int 0, .int 0, .int 0, .int 0, .int 0, .int 0, .null, .int 0, .null, .int 0, .null, .int 0, .int 0, .int 0, .int 0, .int 0, .int 0, .int 0, .int 0, .int 0, .int 0, .null, .null, .null, .null, .int 0, .null, .int 0, .int 0, .int 0, .int 0, .int 0]) : va_E)) : Met l yX6_init wsX6_init ({ frames := 3, cells := 10, slots := 7050, locals := 66 }) (mm_Pc D A (mm_T cI cS cB cZ) M sz [.ref mo]) (mm_Qv D A (fun M1 => ∃ (dk it tq qq qg r1 r2 r3 sc hd : Nat), M1 mo = some (Sum.inr (6, [.ref dk, .ref it, .int 1, .int (-1), .int 0, .int 10, .int 0, .int 0, .ref tq, .int 0, .ref qq, .int 0, .ref qg, .int 0, .int 0, .int 0, .int 1, .int 1, .int 1, .int 2, .int 2, .int 1, .int 0, .ref r1, .ref r2, .ref r3, .ref sc, .int 0, .ref hd, .int 0, .int 0, .int 0, .int 0, .int 0]) : va_E) ∧ M1 dk = some (Sum.inl (cB, 4096, .inl (md_F)) : va_E) ∧ M1 it = some (Sum.inl (cZ, 64, .inl (fun _ => 0)) : va_E) ∧ M1 tq = some (Sum.inl (cB, 200, .inl (fun _ => 0)) : va_E) ∧ M1 sc = some (Sum.inl (cB, 64, .inl (mh_f 1 1 1 2)) : va_E) ∧ it ≠ sc)) 10 7050 A := by
  refine mm_met (cc := cX6_init) (maxL := 2) (ret := none) (by decide) rfl (Nat.le_of_ble_eq_true rfl) ?_
  intro p e s m args below meth c hx hb hr hts hown hlk hin hml hsz hK hM hS ls hl
  subst hsz
  have hl : lv_has ls 2 [(0, .ref mo)] := hl
  refine lv_aload_n hx hb dX6_init_0 rfl (lv_at hl 0 rfl) ?_
  refine W.objInit hx hb hown (hts (.methodLink RX6 1 objectInit) (List.mem_of_getElem? (i := 1) rfl)) (hts (.instanceMethod objectInit) (List.mem_of_getElem? (i := 2) rfl)) (hts _ (List.mem_of_getElem? (i := 3) rfl)) rfl (by rw [hml]; exact hl.1) rfl dX6_init_1 (Nat.le_of_ble_eq_true rfl) (Nat.le_of_ble_eq_true rfl) ?_
  refine W.eq (g2 := F0 m 4 ls []) rfl ?_
  refine lv_aload_n hx hb dX6_init_4 rfl (lv_at hl 0 rfl) ?_
  refine lv_sipush (v := 4096) hx hb dX6_init_5 (by decide) ?_
  refine mm_newa (atype := .byte) (ty := .byte) (N' := 4096) hx hb (hts (.arrayClass .byte) (List.mem_of_getElem? (i := 4) rfl)) rfl hK hM hS hA 2 rfl (fun _ h => by cases h) (mm_z_byte 4096) (by decide +kernel) (by decide +kernel) (by decide +kernel) (Nat.le_of_ble_eq_true rfl) (Nat.le_of_ble_eq_true rfl) dX6_init_8 (fun dk H M hM ha hn ho hS => ?_)
  have n_mo_dk : mo ≠ dk := mm_nn h_mo hn
  have h_mo := (ho mo n_mo_dk).trans h_mo
  have h_dk : _ = some (Sum.inl (cB, 4096, .inl (fun _ => 0)) : va_E) := ha
  refine W.widen (k := 1) (n := 4096) (by omega) (by omega) ?_
  refine mm_putF (v := .ref dk) (ci := 6) (C := RX6) (T := TX6) (N := 34) hx hb hts (in_X6_init_X6) tyX6 tyX6_ok nmX6 hown hK hM hS h_mo rfl 0 (by decide) (hts (.fieldLink RX6 7 "GroupLogModel" "disk" "[B") (List.mem_of_getElem? (i := 5) rfl)) rfl hin rfl rfl rfl (Nat.le_of_ble_eq_true rfl) dX6_init_10 (fun H locs M hM ha ho hS => ?_)
  have h_dk := (ho dk (Ne.symm n_mo_dk)).trans h_dk
  have h_mo : _ = some (Sum.inr (6, [.ref dk, .null, .int 0, .int 0, .int 0, .int 0, .int 0, .int 0, .null, .int 0, .null, .int 0, .null, .int 0, .int 0, .int 0, .int 0, .int 0, .int 0, .int 0, .int 0, .int 0, .int 0, .null, .null, .null, .null, .int 0, .null, .int 0, .int 0, .int 0, .int 0, .int 0]) : va_E) := ha
  refine lv_aload_n hx hb dX6_init_13 rfl (lv_at hl 0 rfl) ?_
  refine lv_bipush (v := 64) hx hb dX6_init_14 (by decide) ?_
  refine mm_newa (atype := .boolean) (ty := .boolean) (N' := 64) hx hb (hts (.arrayClass .boolean) (List.mem_of_getElem? (i := 6) rfl)) rfl hK hM hS hA 3 rfl (fun _ h => by cases h) (mm_z_boolean 64) (by decide +kernel) (by decide +kernel) (by decide +kernel) (Nat.le_of_ble_eq_true rfl) (Nat.le_of_ble_eq_true rfl) dX6_init_16 (fun it H M hM ha hn ho hS => ?_)
  have n_mo_it : mo ≠ it := mm_nn h_mo hn
  have h_mo := (ho mo n_mo_it).trans h_mo
  have n_dk_it : dk ≠ it := mm_nn h_dk hn
  have h_dk := (ho dk n_dk_it).trans h_dk
  have h_it : _ = some (Sum.inl (cZ, 64, .inl (fun _ => 0)) : va_E) := ha
  refine W.widen (k := 2) (n := 4160) (by omega) (by omega) ?_
  refine mm_putF (v := .ref it) (ci := 6) (C := RX6) (T := TX6) (N := 34) hx hb hts (in_X6_init_X6) tyX6 tyX6_ok nmX6 hown hK hM hS h_mo rfl 1 (by decide) (hts (.fieldLink RX6 13 "GroupLogModel" "isTorn" "[Z") (List.mem_of_getElem? (i := 7) rfl)) rfl hin rfl rfl rfl (Nat.le_of_ble_eq_true rfl) dX6_init_18 (fun H locs M hM ha ho hS => ?_)
  have h_dk := (ho dk (Ne.symm n_mo_dk)).trans h_dk
  have h_it := (ho it (Ne.symm n_mo_it)).trans h_it
  have h_mo : _ = some (Sum.inr (6, [.ref dk, .ref it, .int 0, .int 0, .int 0, .int 0, .int 0, .int 0, .null, .int 0, .null, .int 0, .null, .int 0, .int 0, .int 0, .int 0, .int 0, .int 0, .int 0, .int 0, .int 0, .int 0, .null, .null, .null, .null, .int 0, .null, .int 0, .int 0, .int 0, .int 0, .int 0]) : va_E) := ha
  refine lv_aload_n hx hb dX6_init_21 rfl (lv_at hl 0 rfl) ?_
  refine lv_iconst (v := 1) hx hb dX6_init_22 (by decide) ?_
  refine mm_put (v := .int 1) (ci := 6) (C := RX6) (T := TX6) (N := 34) hx hb hts (in_X6_init_X6) tyX6 tyX6_ok nmX6 hown hK hM hS h_mo rfl 2 (by decide) (hts (.fieldLink RX6 17 "GroupLogModel" "isOn" "Z") (List.mem_of_getElem? (i := 8) rfl)) rfl rfl rfl (Nat.le_of_ble_eq_true rfl) dX6_init_23 (fun H locs M hM ha ho hS => ?_)
  have h_dk := (ho dk (Ne.symm n_mo_dk)).trans h_dk
  have h_it := (ho it (Ne.symm n_mo_it)).trans h_it
  have h_mo : _ = some (Sum.inr (6, [.ref dk, .ref it, .int 1, .int 0, .int 0, .int 0, .int 0, .int 0, .null, .int 0, .null, .int 0, .null, .int 0, .int 0, .int 0, .int 0, .int 0, .int 0, .int 0, .int 0, .int 0, .int 0, .null, .null, .null, .null, .int 0, .null, .int 0, .int 0, .int 0, .int 0, .int 0]) : va_E) := ha
  refine lv_aload_n hx hb dX6_init_26 rfl (lv_at hl 0 rfl) ?_
  refine lv_iconst (v := (-1)) hx hb dX6_init_27 (by decide) ?_
  refine mm_put (v := .int (-1)) (ci := 6) (C := RX6) (T := TX6) (N := 34) hx hb hts (in_X6_init_X6) tyX6 tyX6_ok nmX6 hown hK hM hS h_mo rfl 3 (by decide) (hts (.fieldLink RX6 21 "GroupLogModel" "armed" "I") (List.mem_of_getElem? (i := 9) rfl)) rfl rfl rfl (Nat.le_of_ble_eq_true rfl) dX6_init_28 (fun H locs M hM ha ho hS => ?_)
  have h_dk := (ho dk (Ne.symm n_mo_dk)).trans h_dk
  have h_it := (ho it (Ne.symm n_mo_it)).trans h_it
  have h_mo : _ = some (Sum.inr (6, [.ref dk, .ref it, .int 1, .int (-1), .int 0, .int 0, .int 0, .int 0, .null, .int 0, .null, .int 0, .null, .int 0, .int 0, .int 0, .int 0, .int 0, .int 0, .int 0, .int 0, .int 0, .int 0, .null, .null, .null, .null, .int 0, .null, .int 0, .int 0, .int 0, .int 0, .int 0]) : va_E) := ha
  refine lv_aload_n hx hb dX6_init_31 rfl (lv_at hl 0 rfl) ?_
  refine lv_bipush (v := 10) hx hb dX6_init_32 (by decide) ?_
  refine mm_put (v := .int 10) (ci := 6) (C := RX6) (T := TX6) (N := 34) hx hb hts (in_X6_init_X6) tyX6 tyX6_ok nmX6 hown hK hM hS h_mo rfl 5 (by decide) (hts (.fieldLink RX6 25 "GroupLogModel" "delay" "I") (List.mem_of_getElem? (i := 10) rfl)) rfl rfl rfl (Nat.le_of_ble_eq_true rfl) dX6_init_34 (fun H locs M hM ha ho hS => ?_)
  have h_dk := (ho dk (Ne.symm n_mo_dk)).trans h_dk
  have h_it := (ho it (Ne.symm n_mo_it)).trans h_it
  have h_mo : _ = some (Sum.inr (6, [.ref dk, .ref it, .int 1, .int (-1), .int 0, .int 10, .int 0, .int 0, .null, .int 0, .null, .int 0, .null, .int 0, .int 0, .int 0, .int 0, .int 0, .int 0, .int 0, .int 0, .int 0, .int 0, .null, .null, .null, .null, .int 0, .null, .int 0, .int 0, .int 0, .int 0, .int 0]) : va_E) := ha
  refine lv_aload_n hx hb dX6_init_37 rfl (lv_at hl 0 rfl) ?_
  refine lv_sipush (v := 200) hx hb dX6_init_38 (by decide) ?_
  refine mm_newa (atype := .byte) (ty := .byte) (N' := 200) hx hb (hts (.arrayClass .byte) (List.mem_of_getElem? (i := 4) rfl)) rfl hK hM hS hA 2 rfl (fun _ h => by cases h) (mm_z_byte 200) (by decide +kernel) (by decide +kernel) (by decide +kernel) (Nat.le_of_ble_eq_true rfl) (Nat.le_of_ble_eq_true rfl) dX6_init_41 (fun tq H M hM ha hn ho hS => ?_)
  have n_mo_tq : mo ≠ tq := mm_nn h_mo hn
  have h_mo := (ho mo n_mo_tq).trans h_mo
  have n_dk_tq : dk ≠ tq := mm_nn h_dk hn
  have h_dk := (ho dk n_dk_tq).trans h_dk
  have n_it_tq : it ≠ tq := mm_nn h_it hn
  have h_it := (ho it n_it_tq).trans h_it
  have h_tq : _ = some (Sum.inl (cB, 200, .inl (fun _ => 0)) : va_E) := ha
  refine W.widen (k := 3) (n := 4360) (by omega) (by omega) ?_
  refine mm_putF (v := .ref tq) (ci := 6) (C := RX6) (T := TX6) (N := 34) hx hb hts (in_X6_init_X6) tyX6 tyX6_ok nmX6 hown hK hM hS h_mo rfl 8 (by decide) (hts (.fieldLink RX6 28 "GroupLogModel" "tape" "[B") (List.mem_of_getElem? (i := 11) rfl)) rfl hin rfl rfl rfl (Nat.le_of_ble_eq_true rfl) dX6_init_43 (fun H locs M hM ha ho hS => ?_)
  have h_dk := (ho dk (Ne.symm n_mo_dk)).trans h_dk
  have h_it := (ho it (Ne.symm n_mo_it)).trans h_it
  have h_tq := (ho tq (Ne.symm n_mo_tq)).trans h_tq
  have h_mo : _ = some (Sum.inr (6, [.ref dk, .ref it, .int 1, .int (-1), .int 0, .int 10, .int 0, .int 0, .ref tq, .int 0, .null, .int 0, .null, .int 0, .int 0, .int 0, .int 0, .int 0, .int 0, .int 0, .int 0, .int 0, .int 0, .null, .null, .null, .null, .int 0, .null, .int 0, .int 0, .int 0, .int 0, .int 0]) : va_E) := ha
  refine lv_aload_n hx hb dX6_init_46 rfl (lv_at hl 0 rfl) ?_
  refine lv_sipush (v := 700) hx hb dX6_init_47 (by decide) ?_
  refine mm_newa (atype := .byte) (ty := .byte) (N' := 700) hx hb (hts (.arrayClass .byte) (List.mem_of_getElem? (i := 4) rfl)) rfl hK hM hS hA 2 rfl (fun _ h => by cases h) (mm_z_byte 700) (by decide +kernel) (by decide +kernel) (by decide +kernel) (Nat.le_of_ble_eq_true rfl) (Nat.le_of_ble_eq_true rfl) dX6_init_50 (fun qq H M hM ha hn ho hS => ?_)
  have n_mo_qq : mo ≠ qq := mm_nn h_mo hn
  have h_mo := (ho mo n_mo_qq).trans h_mo
  have n_dk_qq : dk ≠ qq := mm_nn h_dk hn
  have h_dk := (ho dk n_dk_qq).trans h_dk
  have n_it_qq : it ≠ qq := mm_nn h_it hn
  have h_it := (ho it n_it_qq).trans h_it
  have n_tq_qq : tq ≠ qq := mm_nn h_tq hn
  have h_tq := (ho tq n_tq_qq).trans h_tq
  have h_qq : _ = some (Sum.inl (cB, 700, .inl (fun _ => 0)) : va_E) := ha
  refine W.widen (k := 4) (n := 5060) (by omega) (by omega) ?_
  refine mm_putF (v := .ref qq) (ci := 6) (C := RX6) (T := TX6) (N := 34) hx hb hts (in_X6_init_X6) tyX6 tyX6_ok nmX6 hown hK hM hS h_mo rfl 10 (by decide) (hts (.fieldLink RX6 31 "GroupLogModel" "queue" "[B") (List.mem_of_getElem? (i := 12) rfl)) rfl hin rfl rfl rfl (Nat.le_of_ble_eq_true rfl) dX6_init_52 (fun H locs M hM ha ho hS => ?_)
  have h_dk := (ho dk (Ne.symm n_mo_dk)).trans h_dk
  have h_it := (ho it (Ne.symm n_mo_it)).trans h_it
  have h_tq := (ho tq (Ne.symm n_mo_tq)).trans h_tq
  have h_qq := (ho qq (Ne.symm n_mo_qq)).trans h_qq
  have h_mo : _ = some (Sum.inr (6, [.ref dk, .ref it, .int 1, .int (-1), .int 0, .int 10, .int 0, .int 0, .ref tq, .int 0, .ref qq, .int 0, .null, .int 0, .int 0, .int 0, .int 0, .int 0, .int 0, .int 0, .int 0, .int 0, .int 0, .null, .null, .null, .null, .int 0, .null, .int 0, .int 0, .int 0, .int 0, .int 0]) : va_E) := ha
  refine lv_aload_n hx hb dX6_init_55 rfl (lv_at hl 0 rfl) ?_
  refine lv_bipush (v := 120) hx hb dX6_init_56 (by decide) ?_
  refine mm_newa (atype := .int) (ty := .int) (N' := 120) hx hb (hts (.arrayClass .int) (List.mem_of_getElem? (i := 13) rfl)) rfl hK hM hS hA 0 rfl (fun _ h => by cases h) (mm_z_int 120) (by decide +kernel) (by decide +kernel) (by decide +kernel) (Nat.le_of_ble_eq_true rfl) (Nat.le_of_ble_eq_true rfl) dX6_init_58 (fun qg H M hM ha hn ho hS => ?_)
  have n_mo_qg : mo ≠ qg := mm_nn h_mo hn
  have h_mo := (ho mo n_mo_qg).trans h_mo
  have n_dk_qg : dk ≠ qg := mm_nn h_dk hn
  have h_dk := (ho dk n_dk_qg).trans h_dk
  have n_it_qg : it ≠ qg := mm_nn h_it hn
  have h_it := (ho it n_it_qg).trans h_it
  have n_tq_qg : tq ≠ qg := mm_nn h_tq hn
  have h_tq := (ho tq n_tq_qg).trans h_tq
  have h_qg : _ = some (Sum.inl (cI, 120, .inl (fun _ => 0)) : va_E) := ha
  refine W.widen (k := 5) (n := 5180) (by omega) (by omega) ?_
  refine mm_putF (v := .ref qg) (ci := 6) (C := RX6) (T := TX6) (N := 34) hx hb hts (in_X6_init_X6) tyX6 tyX6_ok nmX6 hown hK hM hS h_mo rfl 12 (by decide) (hts (.fieldLink RX6 34 "GroupLogModel" "queueBegins" "[I") (List.mem_of_getElem? (i := 14) rfl)) rfl hin rfl rfl rfl (Nat.le_of_ble_eq_true rfl) dX6_init_60 (fun H locs M hM ha ho hS => ?_)
  have h_dk := (ho dk (Ne.symm n_mo_dk)).trans h_dk
  have h_it := (ho it (Ne.symm n_mo_it)).trans h_it
  have h_tq := (ho tq (Ne.symm n_mo_tq)).trans h_tq
  have h_qg := (ho qg (Ne.symm n_mo_qg)).trans h_qg
  have h_mo : _ = some (Sum.inr (6, [.ref dk, .ref it, .int 1, .int (-1), .int 0, .int 10, .int 0, .int 0, .ref tq, .int 0, .ref qq, .int 0, .ref qg, .int 0, .int 0, .int 0, .int 0, .int 0, .int 0, .int 0, .int 0, .int 0, .int 0, .null, .null, .null, .null, .int 0, .null, .int 0, .int 0, .int 0, .int 0, .int 0]) : va_E) := ha
  refine lv_aload_n hx hb dX6_init_63 rfl (lv_at hl 0 rfl) ?_
  refine lv_iconst (v := 1) hx hb dX6_init_64 (by decide) ?_
  refine mm_put (v := .int 1) (ci := 6) (C := RX6) (T := TX6) (N := 34) hx hb hts (in_X6_init_X6) tyX6 tyX6_ok nmX6 hown hK hM hS h_mo rfl 16 (by decide) (hts (.fieldLink RX6 38 "GroupLogModel" "version" "I") (List.mem_of_getElem? (i := 15) rfl)) rfl rfl rfl (Nat.le_of_ble_eq_true rfl) dX6_init_65 (fun H locs M hM ha ho hS => ?_)
  have h_dk := (ho dk (Ne.symm n_mo_dk)).trans h_dk
  have h_it := (ho it (Ne.symm n_mo_it)).trans h_it
  have h_tq := (ho tq (Ne.symm n_mo_tq)).trans h_tq
  have h_mo : _ = some (Sum.inr (6, [.ref dk, .ref it, .int 1, .int (-1), .int 0, .int 10, .int 0, .int 0, .ref tq, .int 0, .ref qq, .int 0, .ref qg, .int 0, .int 0, .int 0, .int 1, .int 0, .int 0, .int 0, .int 0, .int 0, .int 0, .null, .null, .null, .null, .int 0, .null, .int 0, .int 0, .int 0, .int 0, .int 0]) : va_E) := ha
  refine lv_aload_n hx hb dX6_init_68 rfl (lv_at hl 0 rfl) ?_
  refine lv_iconst (v := 1) hx hb dX6_init_69 (by decide) ?_
  refine mm_put (v := .int 1) (ci := 6) (C := RX6) (T := TX6) (N := 34) hx hb hts (in_X6_init_X6) tyX6 tyX6_ok nmX6 hown hK hM hS h_mo rfl 17 (by decide) (hts (.fieldLink RX6 41 "GroupLogModel" "firstSerial" "I") (List.mem_of_getElem? (i := 16) rfl)) rfl rfl rfl (Nat.le_of_ble_eq_true rfl) dX6_init_70 (fun H locs M hM ha ho hS => ?_)
  have h_dk := (ho dk (Ne.symm n_mo_dk)).trans h_dk
  have h_it := (ho it (Ne.symm n_mo_it)).trans h_it
  have h_tq := (ho tq (Ne.symm n_mo_tq)).trans h_tq
  have h_mo : _ = some (Sum.inr (6, [.ref dk, .ref it, .int 1, .int (-1), .int 0, .int 10, .int 0, .int 0, .ref tq, .int 0, .ref qq, .int 0, .ref qg, .int 0, .int 0, .int 0, .int 1, .int 1, .int 0, .int 0, .int 0, .int 0, .int 0, .null, .null, .null, .null, .int 0, .null, .int 0, .int 0, .int 0, .int 0, .int 0]) : va_E) := ha
  refine lv_aload_n hx hb dX6_init_73 rfl (lv_at hl 0 rfl) ?_
  refine lv_iconst (v := 1) hx hb dX6_init_74 (by decide) ?_
  refine mm_put (v := .int 1) (ci := 6) (C := RX6) (T := TX6) (N := 34) hx hb hts (in_X6_init_X6) tyX6 tyX6_ok nmX6 hown hK hM hS h_mo rfl 18 (by decide) (hts (.fieldLink RX6 44 "GroupLogModel" "firstRecord" "I") (List.mem_of_getElem? (i := 17) rfl)) rfl rfl rfl (Nat.le_of_ble_eq_true rfl) dX6_init_75 (fun H locs M hM ha ho hS => ?_)
  have h_dk := (ho dk (Ne.symm n_mo_dk)).trans h_dk
  have h_it := (ho it (Ne.symm n_mo_it)).trans h_it
  have h_tq := (ho tq (Ne.symm n_mo_tq)).trans h_tq
  have h_mo : _ = some (Sum.inr (6, [.ref dk, .ref it, .int 1, .int (-1), .int 0, .int 10, .int 0, .int 0, .ref tq, .int 0, .ref qq, .int 0, .ref qg, .int 0, .int 0, .int 0, .int 1, .int 1, .int 1, .int 0, .int 0, .int 0, .int 0, .null, .null, .null, .null, .int 0, .null, .int 0, .int 0, .int 0, .int 0, .int 0]) : va_E) := ha
  refine lv_aload_n hx hb dX6_init_78 rfl (lv_at hl 0 rfl) ?_
  refine lv_iconst (v := 2) hx hb dX6_init_79 (by decide) ?_
  refine mm_put (v := .int 2) (ci := 6) (C := RX6) (T := TX6) (N := 34) hx hb hts (in_X6_init_X6) tyX6 tyX6_ok nmX6 hown hK hM hS h_mo rfl 19 (by decide) (hts (.fieldLink RX6 47 "GroupLogModel" "place" "I") (List.mem_of_getElem? (i := 18) rfl)) rfl rfl rfl (Nat.le_of_ble_eq_true rfl) dX6_init_80 (fun H locs M hM ha ho hS => ?_)
  have h_dk := (ho dk (Ne.symm n_mo_dk)).trans h_dk
  have h_it := (ho it (Ne.symm n_mo_it)).trans h_it
  have h_tq := (ho tq (Ne.symm n_mo_tq)).trans h_tq
  have h_mo : _ = some (Sum.inr (6, [.ref dk, .ref it, .int 1, .int (-1), .int 0, .int 10, .int 0, .int 0, .ref tq, .int 0, .ref qq, .int 0, .ref qg, .int 0, .int 0, .int 0, .int 1, .int 1, .int 1, .int 2, .int 0, .int 0, .int 0, .null, .null, .null, .null, .int 0, .null, .int 0, .int 0, .int 0, .int 0, .int 0]) : va_E) := ha
  refine lv_aload_n hx hb dX6_init_83 rfl (lv_at hl 0 rfl) ?_
  refine lv_iconst (v := 2) hx hb dX6_init_84 (by decide) ?_
  refine mm_put (v := .int 2) (ci := 6) (C := RX6) (T := TX6) (N := 34) hx hb hts (in_X6_init_X6) tyX6 tyX6_ok nmX6 hown hK hM hS h_mo rfl 20 (by decide) (hts (.fieldLink RX6 50 "GroupLogModel" "nextSector" "I") (List.mem_of_getElem? (i := 19) rfl)) rfl rfl rfl (Nat.le_of_ble_eq_true rfl) dX6_init_85 (fun H locs M hM ha ho hS => ?_)
  have h_dk := (ho dk (Ne.symm n_mo_dk)).trans h_dk
  have h_it := (ho it (Ne.symm n_mo_it)).trans h_it
  have h_tq := (ho tq (Ne.symm n_mo_tq)).trans h_tq
  have h_mo : _ = some (Sum.inr (6, [.ref dk, .ref it, .int 1, .int (-1), .int 0, .int 10, .int 0, .int 0, .ref tq, .int 0, .ref qq, .int 0, .ref qg, .int 0, .int 0, .int 0, .int 1, .int 1, .int 1, .int 2, .int 2, .int 0, .int 0, .null, .null, .null, .null, .int 0, .null, .int 0, .int 0, .int 0, .int 0, .int 0]) : va_E) := ha
  refine lv_aload_n hx hb dX6_init_88 rfl (lv_at hl 0 rfl) ?_
  refine lv_iconst (v := 1) hx hb dX6_init_89 (by decide) ?_
  refine mm_put (v := .int 1) (ci := 6) (C := RX6) (T := TX6) (N := 34) hx hb hts (in_X6_init_X6) tyX6 tyX6_ok nmX6 hown hK hM hS h_mo rfl 21 (by decide) (hts (.fieldLink RX6 53 "GroupLogModel" "nextSerial" "I") (List.mem_of_getElem? (i := 20) rfl)) rfl rfl rfl (Nat.le_of_ble_eq_true rfl) dX6_init_90 (fun H locs M hM ha ho hS => ?_)
  have h_dk := (ho dk (Ne.symm n_mo_dk)).trans h_dk
  have h_it := (ho it (Ne.symm n_mo_it)).trans h_it
  have h_tq := (ho tq (Ne.symm n_mo_tq)).trans h_tq
  have h_mo : _ = some (Sum.inr (6, [.ref dk, .ref it, .int 1, .int (-1), .int 0, .int 10, .int 0, .int 0, .ref tq, .int 0, .ref qq, .int 0, .ref qg, .int 0, .int 0, .int 0, .int 1, .int 1, .int 1, .int 2, .int 2, .int 1, .int 0, .null, .null, .null, .null, .int 0, .null, .int 0, .int 0, .int 0, .int 0, .int 0]) : va_E) := ha
  refine lv_aload_n hx hb dX6_init_93 rfl (lv_at hl 0 rfl) ?_
  refine lv_sipush (v := 600) hx hb dX6_init_94 (by decide) ?_
  refine mm_newa (atype := .int) (ty := .int) (N' := 600) hx hb (hts (.arrayClass .int) (List.mem_of_getElem? (i := 13) rfl)) rfl hK hM hS hA 0 rfl (fun _ h => by cases h) (mm_z_int 600) (by decide +kernel) (by decide +kernel) (by decide +kernel) (Nat.le_of_ble_eq_true rfl) (Nat.le_of_ble_eq_true rfl) dX6_init_97 (fun r1 H M hM ha hn ho hS => ?_)
  have n_mo_r1 : mo ≠ r1 := mm_nn h_mo hn
  have h_mo := (ho mo n_mo_r1).trans h_mo
  have n_dk_r1 : dk ≠ r1 := mm_nn h_dk hn
  have h_dk := (ho dk n_dk_r1).trans h_dk
  have n_it_r1 : it ≠ r1 := mm_nn h_it hn
  have h_it := (ho it n_it_r1).trans h_it
  have n_tq_r1 : tq ≠ r1 := mm_nn h_tq hn
  have h_tq := (ho tq n_tq_r1).trans h_tq
  have h_r1 : _ = some (Sum.inl (cI, 600, .inl (fun _ => 0)) : va_E) := ha
  refine W.widen (k := 6) (n := 5780) (by omega) (by omega) ?_
  refine mm_putF (v := .ref r1) (ci := 6) (C := RX6) (T := TX6) (N := 34) hx hb hts (in_X6_init_X6) tyX6 tyX6_ok nmX6 hown hK hM hS h_mo rfl 23 (by decide) (hts (.fieldLink RX6 56 "GroupLogModel" "recordSector" "[I") (List.mem_of_getElem? (i := 21) rfl)) rfl hin rfl rfl rfl (Nat.le_of_ble_eq_true rfl) dX6_init_99 (fun H locs M hM ha ho hS => ?_)
  have h_dk := (ho dk (Ne.symm n_mo_dk)).trans h_dk
  have h_it := (ho it (Ne.symm n_mo_it)).trans h_it
  have h_tq := (ho tq (Ne.symm n_mo_tq)).trans h_tq
  have h_r1 := (ho r1 (Ne.symm n_mo_r1)).trans h_r1
  have h_mo : _ = some (Sum.inr (6, [.ref dk, .ref it, .int 1, .int (-1), .int 0, .int 10, .int 0, .int 0, .ref tq, .int 0, .ref qq, .int 0, .ref qg, .int 0, .int 0, .int 0, .int 1, .int 1, .int 1, .int 2, .int 2, .int 1, .int 0, .ref r1, .null, .null, .null, .int 0, .null, .int 0, .int 0, .int 0, .int 0, .int 0]) : va_E) := ha
  refine lv_aload_n hx hb dX6_init_102 rfl (lv_at hl 0 rfl) ?_
  refine lv_sipush (v := 600) hx hb dX6_init_103 (by decide) ?_
  refine mm_newa (atype := .int) (ty := .int) (N' := 600) hx hb (hts (.arrayClass .int) (List.mem_of_getElem? (i := 13) rfl)) rfl hK hM hS hA 0 rfl (fun _ h => by cases h) (mm_z_int 600) (by decide +kernel) (by decide +kernel) (by decide +kernel) (Nat.le_of_ble_eq_true rfl) (Nat.le_of_ble_eq_true rfl) dX6_init_106 (fun r2 H M hM ha hn ho hS => ?_)
  have n_mo_r2 : mo ≠ r2 := mm_nn h_mo hn
  have h_mo := (ho mo n_mo_r2).trans h_mo
  have n_dk_r2 : dk ≠ r2 := mm_nn h_dk hn
  have h_dk := (ho dk n_dk_r2).trans h_dk
  have n_it_r2 : it ≠ r2 := mm_nn h_it hn
  have h_it := (ho it n_it_r2).trans h_it
  have n_tq_r2 : tq ≠ r2 := mm_nn h_tq hn
  have h_tq := (ho tq n_tq_r2).trans h_tq
  have h_r2 : _ = some (Sum.inl (cI, 600, .inl (fun _ => 0)) : va_E) := ha
  refine W.widen (k := 7) (n := 6380) (by omega) (by omega) ?_
  refine mm_putF (v := .ref r2) (ci := 6) (C := RX6) (T := TX6) (N := 34) hx hb hts (in_X6_init_X6) tyX6 tyX6_ok nmX6 hown hK hM hS h_mo rfl 24 (by decide) (hts (.fieldLink RX6 59 "GroupLogModel" "recordByte" "[I") (List.mem_of_getElem? (i := 22) rfl)) rfl hin rfl rfl rfl (Nat.le_of_ble_eq_true rfl) dX6_init_108 (fun H locs M hM ha ho hS => ?_)
  have h_dk := (ho dk (Ne.symm n_mo_dk)).trans h_dk
  have h_it := (ho it (Ne.symm n_mo_it)).trans h_it
  have h_tq := (ho tq (Ne.symm n_mo_tq)).trans h_tq
  have h_r2 := (ho r2 (Ne.symm n_mo_r2)).trans h_r2
  have h_mo : _ = some (Sum.inr (6, [.ref dk, .ref it, .int 1, .int (-1), .int 0, .int 10, .int 0, .int 0, .ref tq, .int 0, .ref qq, .int 0, .ref qg, .int 0, .int 0, .int 0, .int 1, .int 1, .int 1, .int 2, .int 2, .int 1, .int 0, .ref r1, .ref r2, .null, .null, .int 0, .null, .int 0, .int 0, .int 0, .int 0, .int 0]) : va_E) := ha
  refine lv_aload_n hx hb dX6_init_111 rfl (lv_at hl 0 rfl) ?_
  refine lv_sipush (v := 600) hx hb dX6_init_112 (by decide) ?_
  refine mm_newa (atype := .int) (ty := .int) (N' := 600) hx hb (hts (.arrayClass .int) (List.mem_of_getElem? (i := 13) rfl)) rfl hK hM hS hA 0 rfl (fun _ h => by cases h) (mm_z_int 600) (by decide +kernel) (by decide +kernel) (by decide +kernel) (Nat.le_of_ble_eq_true rfl) (Nat.le_of_ble_eq_true rfl) dX6_init_115 (fun r3 H M hM ha hn ho hS => ?_)
  have n_mo_r3 : mo ≠ r3 := mm_nn h_mo hn
  have h_mo := (ho mo n_mo_r3).trans h_mo
  have n_dk_r3 : dk ≠ r3 := mm_nn h_dk hn
  have h_dk := (ho dk n_dk_r3).trans h_dk
  have n_it_r3 : it ≠ r3 := mm_nn h_it hn
  have h_it := (ho it n_it_r3).trans h_it
  have n_tq_r3 : tq ≠ r3 := mm_nn h_tq hn
  have h_tq := (ho tq n_tq_r3).trans h_tq
  have h_r3 : _ = some (Sum.inl (cI, 600, .inl (fun _ => 0)) : va_E) := ha
  refine W.widen (k := 8) (n := 6980) (by omega) (by omega) ?_
  refine mm_putF (v := .ref r3) (ci := 6) (C := RX6) (T := TX6) (N := 34) hx hb hts (in_X6_init_X6) tyX6 tyX6_ok nmX6 hown hK hM hS h_mo rfl 25 (by decide) (hts (.fieldLink RX6 62 "GroupLogModel" "recordSize" "[I") (List.mem_of_getElem? (i := 23) rfl)) rfl hin rfl rfl rfl (Nat.le_of_ble_eq_true rfl) dX6_init_117 (fun H locs M hM ha ho hS => ?_)
  have h_dk := (ho dk (Ne.symm n_mo_dk)).trans h_dk
  have h_it := (ho it (Ne.symm n_mo_it)).trans h_it
  have h_tq := (ho tq (Ne.symm n_mo_tq)).trans h_tq
  have h_r3 := (ho r3 (Ne.symm n_mo_r3)).trans h_r3
  have h_mo : _ = some (Sum.inr (6, [.ref dk, .ref it, .int 1, .int (-1), .int 0, .int 10, .int 0, .int 0, .ref tq, .int 0, .ref qq, .int 0, .ref qg, .int 0, .int 0, .int 0, .int 1, .int 1, .int 1, .int 2, .int 2, .int 1, .int 0, .ref r1, .ref r2, .ref r3, .null, .int 0, .null, .int 0, .int 0, .int 0, .int 0, .int 0]) : va_E) := ha
  refine lv_aload_n hx hb dX6_init_120 rfl (lv_at hl 0 rfl) ?_
  refine lv_bipush (v := 64) hx hb dX6_init_121 (by decide) ?_
  refine mm_newa (atype := .byte) (ty := .byte) (N' := 64) hx hb (hts (.arrayClass .byte) (List.mem_of_getElem? (i := 4) rfl)) rfl hK hM hS hA 2 rfl (fun _ h => by cases h) (mm_z_byte 64) (by decide +kernel) (by decide +kernel) (by decide +kernel) (Nat.le_of_ble_eq_true rfl) (Nat.le_of_ble_eq_true rfl) dX6_init_123 (fun sc H M hM ha hn ho hS => ?_)
  have n_mo_sc : mo ≠ sc := mm_nn h_mo hn
  have h_mo := (ho mo n_mo_sc).trans h_mo
  have n_dk_sc : dk ≠ sc := mm_nn h_dk hn
  have h_dk := (ho dk n_dk_sc).trans h_dk
  have n_it_sc : it ≠ sc := mm_nn h_it hn
  have h_it := (ho it n_it_sc).trans h_it
  have n_tq_sc : tq ≠ sc := mm_nn h_tq hn
  have h_tq := (ho tq n_tq_sc).trans h_tq
  have h_sc : _ = some (Sum.inl (cB, 64, .inl (fun _ => 0)) : va_E) := ha
  refine W.widen (k := 9) (n := 7044) (by omega) (by omega) ?_
  refine mm_putF (v := .ref sc) (ci := 6) (C := RX6) (T := TX6) (N := 34) hx hb hts (in_X6_init_X6) tyX6 tyX6_ok nmX6 hown hK hM hS h_mo rfl 26 (by decide) (hts (.fieldLink RX6 65 "GroupLogModel" "sector" "[B") (List.mem_of_getElem? (i := 24) rfl)) rfl hin rfl rfl rfl (Nat.le_of_ble_eq_true rfl) dX6_init_125 (fun H locs M hM ha ho hS => ?_)
  have h_dk := (ho dk (Ne.symm n_mo_dk)).trans h_dk
  have h_it := (ho it (Ne.symm n_mo_it)).trans h_it
  have h_tq := (ho tq (Ne.symm n_mo_tq)).trans h_tq
  have h_sc := (ho sc (Ne.symm n_mo_sc)).trans h_sc
  have h_mo : _ = some (Sum.inr (6, [.ref dk, .ref it, .int 1, .int (-1), .int 0, .int 10, .int 0, .int 0, .ref tq, .int 0, .ref qq, .int 0, .ref qg, .int 0, .int 0, .int 0, .int 1, .int 1, .int 1, .int 2, .int 2, .int 1, .int 0, .ref r1, .ref r2, .ref r3, .ref sc, .int 0, .null, .int 0, .int 0, .int 0, .int 0, .int 0]) : va_E) := ha
  refine lv_aload_n hx hb dX6_init_128 rfl (lv_at hl 0 rfl) ?_
  refine lv_bipush (v := 6) hx hb dX6_init_129 (by decide) ?_
  refine mm_newa (atype := .int) (ty := .int) (N' := 6) hx hb (hts (.arrayClass .int) (List.mem_of_getElem? (i := 13) rfl)) rfl hK hM hS hA 0 rfl (fun _ h => by cases h) (mm_z_int 6) (by decide +kernel) (by decide +kernel) (by decide +kernel) (Nat.le_of_ble_eq_true rfl) (Nat.le_of_ble_eq_true rfl) dX6_init_131 (fun hd H M hM ha hn ho hS => ?_)
  have n_mo_hd : mo ≠ hd := mm_nn h_mo hn
  have h_mo := (ho mo n_mo_hd).trans h_mo
  have n_dk_hd : dk ≠ hd := mm_nn h_dk hn
  have h_dk := (ho dk n_dk_hd).trans h_dk
  have n_it_hd : it ≠ hd := mm_nn h_it hn
  have h_it := (ho it n_it_hd).trans h_it
  have n_tq_hd : tq ≠ hd := mm_nn h_tq hn
  have h_tq := (ho tq n_tq_hd).trans h_tq
  have n_sc_hd : sc ≠ hd := mm_nn h_sc hn
  have h_sc := (ho sc n_sc_hd).trans h_sc
  have h_hd : _ = some (Sum.inl (cI, 6, .inl (fun _ => 0)) : va_E) := ha
  refine W.widen (k := 10) (n := 7050) (by omega) (by omega) ?_
  refine mm_putF (v := .ref hd) (ci := 6) (C := RX6) (T := TX6) (N := 34) hx hb hts (in_X6_init_X6) tyX6 tyX6_ok nmX6 hown hK hM hS h_mo rfl 28 (by decide) (hts (.fieldLink RX6 68 "GroupLogModel" "head" "[I") (List.mem_of_getElem? (i := 25) rfl)) rfl hin rfl rfl rfl (Nat.le_of_ble_eq_true rfl) dX6_init_133 (fun H locs M hM ha ho hS => ?_)
  have h_dk := (ho dk (Ne.symm n_mo_dk)).trans h_dk
  have h_it := (ho it (Ne.symm n_mo_it)).trans h_it
  have h_tq := (ho tq (Ne.symm n_mo_tq)).trans h_tq
  have h_sc := (ho sc (Ne.symm n_mo_sc)).trans h_sc
  have h_hd := (ho hd (Ne.symm n_mo_hd)).trans h_hd
  have h_mo : _ = some (Sum.inr (6, [.ref dk, .ref it, .int 1, .int (-1), .int 0, .int 10, .int 0, .int 0, .ref tq, .int 0, .ref qq, .int 0, .ref qg, .int 0, .int 0, .int 0, .int 1, .int 1, .int 1, .int 2, .int 2, .int 1, .int 0, .ref r1, .ref r2, .ref r3, .ref sc, .int 0, .ref hd, .int 0, .int 0, .int 0, .int 0, .int 0]) : va_E) := ha
  refine lv_aload_n hx hb dX6_init_136 rfl (lv_at hl 0 rfl) ?_
  refine mm_callv (mm_runV (As := []) (rest := []) ⟨hx, hb, hml, hown, hts⟩ (c_X6_makeHead h_mo h_sc) (cwV 0 hts gX6_init_X6_makeHead rfl rfl rfl (by decide +kernel) ⟨Nat.le_of_ble_eq_true rfl, Nat.le_of_ble_eq_true rfl⟩) hK hM h_mo rfl rfl hl.1 rfl (Nat.le_of_ble_eq_true rfl) dX6_init_137 ⟨Nat.le_of_ble_eq_true rfl, Nat.le_of_ble_eq_true rfl⟩) hS (fun _ h => h) (fun M H locs hp hM hS hz _ => ?_)
  obtain ⟨ha, ho⟩ := hp
  have h_mo := (ho mo n_mo_sc).trans h_mo
  have h_dk := (ho dk n_dk_sc).trans h_dk
  have h_it := (ho it n_it_sc).trans h_it
  have h_tq := (ho tq n_tq_sc).trans h_tq
  have h_sc : _ = some (Sum.inl (cB, 64, .inl (mh_f 1 1 1 2)) : va_E) := ha
  refine lv_iconst (v := 0) hx hb dX6_init_140 (by decide) ?_
  refine lv_istore_n (lv' := [(1, .int 0), (0, .ref mo)]) hx hb dX6_init_141 rfl hl (by decide) rfl (fun ls hl => ?_)
  refine lp_X6_init (m0 := mo) (it := it) (tq := tq) (sc := sc) hx hb hts hown hml hK 64 0 rfl _ _ _ _ hM hS h_mo h_dk h_sc (fun k => by rw [if_neg (by omega)]) (fun M1 H locs ls hM hS ha ho => ?_) ls (lv_sub hl [1, 0] rfl)
  have h_mo := (ho mo n_mo_dk).trans h_mo
  have h_it := (ho it (Ne.symm n_dk_it)).trans h_it
  have h_tq := (ho tq (Ne.symm n_dk_tq)).trans h_tq
  have h_sc := (ho sc (Ne.symm n_dk_sc)).trans h_sc
  have h_dk : _ = some (Sum.inl (cB, 4096, .inl (md_F)) : va_E) := ha
  exact mm_vret hx hb hr hlk hM hS (⟨dk, it, tq, qq, qg, r1, r2, r3, sc, hd, h_mo, h_dk, h_it, h_tq, h_sc, n_it_sc⟩) dX6_init_166
end
section
theorem tk_le {k c : Int32} : k ≤ c ↔ ¬ c < k := by
  rw [Int32.le_iff_toInt_le, Int32.lt_iff_toInt_lt]
  omega
theorem tk_gt {k c : Int32} : ¬ k ≤ c ↔ c < k := by
  rw [Int32.le_iff_toInt_le, Int32.lt_iff_toInt_lt]
  omega

theorem in_X6_delay_X6 : ∀ w ∈ u_ws RX6 TX6 34, w ∈ wsX6_delay := fun w h => List.mem_cons_of_mem _ (List.mem_append_right _ h)
set_option maxHeartbeats 4000000 in
set_option maxRecDepth 100000 in
theorem c_X6_delay {l : Launch} {D : va_G} {A : Nat → Prop} {cI cS cB cZ : ClassId} {M : Nat → Option va_E} {sz : Nat} {mo dk it tq qq qg r1 r2 r3 sc hd : Nat} {k : Int32} (h_mo : M mo = some (Sum.inr (6, [.ref dk, .ref it, .int 1, .int (-1), .int 0, .int 10, .int 0, .int 0, .ref tq, .int 0, .ref qq, .int 0, .ref qg, .int 0, .int 0, .int 0, .int 1, .int 1, .int 1, .int 2, .int 2, .int 1, .int 0, .ref r1, .ref r2, .ref r3, .ref sc, .int 0, .ref hd, .int 0, .int 0, .int 0, .int 0, .int 0]) : va_E)) : Met l yX6_delay wsX6_delay ({ frames := 0, cells := 0, slots := 0, locals := 0 }) (mm_Pc D A (mm_T cI cS cB cZ) M sz [.ref mo, .int k]) (mm_Qi D A (fun r M1 => r = tk_f k)) 0 0 A := by
  refine mm_met (cc := cX6_delay) (maxL := 2) (ret := (some .boolean)) (by decide) rfl (Nat.le_of_ble_eq_true rfl) ?_
  intro p e s m args below meth c hx hb hr hts hown hlk hin hml hsz hK hM hS ls hl
  subst hsz
  have hl : lv_has ls 2 [(0, .ref mo), (1, .int k)] := hl
  refine lv_aload_n hx hb dX6_delay_0 rfl (lv_at hl 0 rfl) ?_
  refine mm_get (v := .int 1) (ci := 6) (C := RX6) (T := TX6) (N := 34) hx hb hts (in_X6_delay_X6) hown hK hM h_mo rfl 2 (by decide) (hts (.fieldLink RX6 17 "GroupLogModel" "isOn" "Z") (List.mem_of_getElem? (i := 1) rfl)) rfl dX6_delay_1 ?_
  refine lv_if_eq (tgt := 19) hx hb dX6_delay_4 (by decide) (fun c_1 => ?_) (fun c_1 => ?_)
  · exact absurd c_1 (by decide)
  refine lv_iload_n hx hb dX6_delay_7 rfl (lv_at hl 1 rfl) ?_
  refine lv_iconst (v := 1) hx hb dX6_delay_8 (by decide) ?_
  refine lv_icmp_lt (tgt := 19) hx hb dX6_delay_9 (by decide) (fun c_2 => ?_) (fun c_2 => ?_)
  · skip
    refine lv_iconst (v := 0) hx hb dX6_delay_19 (by decide) ?_
    exact mm_zret hx hb hr hlk (rfl) hM hS (by unfold tk_f; rw [if_pos c_2]) dX6_delay_20
  · skip
    refine lv_iload_n hx hb dX6_delay_12 rfl (lv_at hl 1 rfl) ?_
    refine lv_sipush (v := 1000) hx hb dX6_delay_13 (by decide) ?_
    refine lv_icmp_le (tgt := 21) hx hb dX6_delay_16 (by decide) (fun c_3 => ?_) (fun c_3 => ?_)
    · skip
      refine lv_aload_n hx hb dX6_delay_21 rfl (lv_at hl 0 rfl) ?_
      refine lv_iload_n hx hb dX6_delay_22 rfl (lv_at hl 1 rfl) ?_
      refine mm_put (v := .int k) (ci := 6) (C := RX6) (T := TX6) (N := 34) hx hb hts (in_X6_delay_X6) tyX6 tyX6_ok nmX6 hown hK hM hS h_mo rfl 5 (by decide) (hts (.fieldLink RX6 25 "GroupLogModel" "delay" "I") (List.mem_of_getElem? (i := 2) rfl)) rfl rfl rfl (Nat.le_of_ble_eq_true rfl) dX6_delay_23 (fun H locs M hM ha ho hS => ?_)
      have h_mo : _ = some (Sum.inr (6, [.ref dk, .ref it, .int 1, .int (-1), .int 0, .int k, .int 0, .int 0, .ref tq, .int 0, .ref qq, .int 0, .ref qg, .int 0, .int 0, .int 0, .int 1, .int 1, .int 1, .int 2, .int 2, .int 1, .int 0, .ref r1, .ref r2, .ref r3, .ref sc, .int 0, .ref hd, .int 0, .int 0, .int 0, .int 0, .int 0]) : va_E) := ha
      refine lv_iconst (v := 1) hx hb dX6_delay_26 (by decide) ?_
      exact mm_zret hx hb hr hlk (rfl) hM hS (by unfold tk_f; rw [if_neg c_2, if_neg (tk_le.mp c_3)]) dX6_delay_27
    · skip
      refine lv_iconst (v := 0) hx hb dX6_delay_19 (by decide) ?_
      exact mm_zret hx hb hr hlk (rfl) hM hS (by unfold tk_f; rw [if_neg c_2, if_pos (tk_gt.mp c_3)]) dX6_delay_20

theorem in_X6_feed_X6 : ∀ w ∈ u_ws RX6 TX6 34, w ∈ wsX6_feed := fun w h => List.mem_cons_of_mem _ (List.mem_append_right _ h)
set_option maxHeartbeats 4000000 in
set_option maxRecDepth 100000 in
theorem c_X6_feed {l : Launch} {D : va_G} {A : Nat → Prop} {cI cS cB cZ : ClassId} {M : Nat → Option va_E} {sz : Nat} {mo dk it tq qq qg r1 r2 r3 sc hd : Nat} {k : Int32} (h_mo : M mo = some (Sum.inr (6, [.ref dk, .ref it, .int 1, .int (-1), .int 0, .int 10, .int 0, .int 0, .ref tq, .int 0, .ref qq, .int 0, .ref qg, .int 0, .int 0, .int 0, .int 1, .int 1, .int 1, .int 2, .int 2, .int 1, .int 0, .ref r1, .ref r2, .ref r3, .ref sc, .int 0, .ref hd, .int 0, .int 0, .int 0, .int 0, .int 0]) : va_E)) (h_tq : M tq = some (Sum.inl (cB, 200, .inl (fun _ => 0)) : va_E)) : Met l yX6_feed wsX6_feed ({ frames := 0, cells := 0, slots := 0, locals := 0 }) (mm_Pc D A (mm_T cI cS cB cZ) M sz [.ref mo, .int k]) (mm_Qi D A (fun r M1 => r = fd_f k)) 0 0 A := by
  refine mm_met (cc := cX6_feed) (maxL := 2) (ret := (some .boolean)) (by decide) rfl (Nat.le_of_ble_eq_true rfl) ?_
  intro p e s m args below meth c hx hb hr hts hown hlk hin hml hsz hK hM hS ls hl
  subst hsz
  have hl : lv_has ls 2 [(0, .ref mo), (1, .int k)] := hl
  refine lv_iload_n hx hb dX6_feed_0 rfl (lv_at hl 1 rfl) ?_
  refine lv_if_lt (tgt := 21) hx hb dX6_feed_1 (by decide) (fun c_1 => ?_) (fun c_1 => ?_)
  · skip
    refine lv_iconst (v := 0) hx hb dX6_feed_21 (by decide) ?_
    exact mm_zret hx hb hr hlk (rfl) hM hS (by unfold fd_f; rw [if_pos c_1]) dX6_feed_22
  · skip
    refine lv_iload_n hx hb dX6_feed_4 rfl (lv_at hl 1 rfl) ?_
    refine lv_sipush (v := 255) hx hb dX6_feed_5 (by decide) ?_
    refine lv_icmp_gt (tgt := 21) hx hb dX6_feed_8 (by decide) (fun c_2 => ?_) (fun c_2 => ?_)
    · skip
      refine lv_iconst (v := 0) hx hb dX6_feed_21 (by decide) ?_
      exact mm_zret hx hb hr hlk (rfl) hM hS (by unfold fd_f; rw [if_neg c_1, if_pos c_2]) dX6_feed_22
    · skip
      refine lv_aload_n hx hb dX6_feed_11 rfl (lv_at hl 0 rfl) ?_
      refine mm_get (v := .int 0) (ci := 6) (C := RX6) (T := TX6) (N := 34) hx hb hts (in_X6_feed_X6) hown hK hM h_mo rfl 9 (by decide) (hts (.fieldLink RX6 108 "GroupLogModel" "tapeSize" "I") (List.mem_of_getElem? (i := 1) rfl)) rfl dX6_feed_12 ?_
      refine lv_sipush (v := 200) hx hb dX6_feed_15 (by decide) ?_
      refine lv_icmp_ne (tgt := 23) hx hb dX6_feed_18 (by decide) (fun c_3 => ?_) (fun c_3 => ?_)
      rotate_left
      · exact absurd c_3 (by decide)
      refine lv_aload_n hx hb dX6_feed_23 rfl (lv_at hl 0 rfl) ?_
      refine mm_get (v := .ref tq) (ci := 6) (C := RX6) (T := TX6) (N := 34) hx hb hts (in_X6_feed_X6) hown hK hM h_mo rfl 8 (by decide) (hts (.fieldLink RX6 28 "GroupLogModel" "tape" "[B") (List.mem_of_getElem? (i := 2) rfl)) rfl dX6_feed_24 ?_
      refine lv_aload_n hx hb dX6_feed_27 rfl (lv_at hl 0 rfl) ?_
      refine mm_get (v := .int 0) (ci := 6) (C := RX6) (T := TX6) (N := 34) hx hb hts (in_X6_feed_X6) hown hK hM h_mo rfl 9 (by decide) (hts (.fieldLink RX6 108 "GroupLogModel" "tapeSize" "I") (List.mem_of_getElem? (i := 1) rfl)) rfl dX6_feed_28 ?_
      refine lv_iload_n hx hb dX6_feed_31 rfl (lv_at hl 1 rfl) ?_
      refine lv_i2b (v := (k : Int32).toInt8.toInt32) hx hb dX6_feed_32 rfl ?_
      refine mm_bast hx hb hK hM hS 2 h_tq rfl (j := 0) (rfl) (by decide) (by decide) dX6_feed_33 (fun H locs M hM ha ho hS => ?_)
      have h_mo := (ho mo (mm_ne h_mo h_tq mm_oa)).trans h_mo
      have h_tq : _ = some (Sum.inl (cB, 200, .inl (upd (fun _ => 0) (0) ((vp_nar .byte ((k : Int32).toInt8.toInt32))))) : va_E) := ha
      refine lv_aload_n hx hb dX6_feed_34 rfl (lv_at hl 0 rfl) ?_
      refine lv_dup hx hb dX6_feed_35 rfl ?_
      refine mm_get (v := .int 0) (ci := 6) (C := RX6) (T := TX6) (N := 34) hx hb hts (in_X6_feed_X6) hown hK hM h_mo rfl 9 (by decide) (hts (.fieldLink RX6 108 "GroupLogModel" "tapeSize" "I") (List.mem_of_getElem? (i := 1) rfl)) rfl dX6_feed_36 ?_
      refine lv_iconst (v := 1) hx hb dX6_feed_39 (by decide) ?_
      refine lv_iadd hx hb dX6_feed_40 ?_
      refine lv_topi (fun z4 ez4 => ?_)
      have ez4 : z4 = 1 := ez4.trans (by decide)
      subst ez4
      refine mm_put (v := .int 1) (ci := 6) (C := RX6) (T := TX6) (N := 34) hx hb hts (in_X6_feed_X6) tyX6 tyX6_ok nmX6 hown hK hM hS h_mo rfl 9 (by decide) (hts (.fieldLink RX6 108 "GroupLogModel" "tapeSize" "I") (List.mem_of_getElem? (i := 1) rfl)) rfl rfl rfl (Nat.le_of_ble_eq_true rfl) dX6_feed_41 (fun H locs M hM ha ho hS => ?_)
      have h_tq := (ho tq (mm_ne h_tq h_mo mm_ao)).trans h_tq
      have h_mo : _ = some (Sum.inr (6, [.ref dk, .ref it, .int 1, .int (-1), .int 0, .int 10, .int 0, .int 0, .ref tq, .int 1, .ref qq, .int 0, .ref qg, .int 0, .int 0, .int 0, .int 1, .int 1, .int 1, .int 2, .int 2, .int 1, .int 0, .ref r1, .ref r2, .ref r3, .ref sc, .int 0, .ref hd, .int 0, .int 0, .int 0, .int 0, .int 0]) : va_E) := ha
      refine lv_iconst (v := 1) hx hb dX6_feed_44 (by decide) ?_
      exact mm_zret hx hb hr hlk (rfl) hM hS (by unfold fd_f; rw [if_neg c_1, if_neg c_2]) dX6_feed_45

theorem in_X6_append_X6 : ∀ w ∈ u_ws RX6 TX6 34, w ∈ wsX6_append := fun w h => List.mem_cons_of_mem _ (List.mem_append_right _ h)
set_option maxHeartbeats 4000000 in
set_option maxRecDepth 100000 in
theorem c_X6_append {l : Launch} {D : va_G} {A : Nat → Prop} {cI cS cB cZ : ClassId} {M : Nat → Option va_E} {sz : Nat} {mo dk it tq qq qg r1 r2 r3 sc hd : Nat} (h_mo : M mo = some (Sum.inr (6, [.ref dk, .ref it, .int 1, .int (-1), .int 0, .int 10, .int 0, .int 0, .ref tq, .int 0, .ref qq, .int 0, .ref qg, .int 0, .int 0, .int 0, .int 1, .int 1, .int 1, .int 2, .int 2, .int 1, .int 0, .ref r1, .ref r2, .ref r3, .ref sc, .int 0, .ref hd, .int 0, .int 0, .int 0, .int 0, .int 0]) : va_E)) : Met l yX6_append wsX6_append ({ frames := 0, cells := 0, slots := 0, locals := 0 }) (mm_Pc D A (mm_T cI cS cB cZ) M sz [.ref mo]) (mm_Qi D A (fun r M1 => r = (-1))) 0 0 A := by
  refine mm_met (cc := cX6_append) (maxL := 3) (ret := (some .int)) (by decide) rfl (Nat.le_of_ble_eq_true rfl) ?_
  intro p e s m args below meth c hx hb hr hts hown hlk hin hml hsz hK hM hS ls hl
  subst hsz
  have hl : lv_has ls 3 [(0, .ref mo)] := hl
  refine lv_aload_n hx hb dX6_append_0 rfl (lv_at hl 0 rfl) ?_
  refine mm_get (v := .int 1) (ci := 6) (C := RX6) (T := TX6) (N := 34) hx hb hts (in_X6_append_X6) hown hK hM h_mo rfl 2 (by decide) (hts (.fieldLink RX6 17 "GroupLogModel" "isOn" "Z") (List.mem_of_getElem? (i := 1) rfl)) rfl dX6_append_1 ?_
  refine lv_if_ne (tgt := 10) hx hb dX6_append_4 (by decide) (fun c_1 => ?_) (fun c_1 => ?_)
  rotate_left
  · exact absurd c_1 (by decide)
  refine lv_aload_n hx hb dX6_append_10 rfl (lv_at hl 0 rfl) ?_
  refine mm_get (v := .int 0) (ci := 6) (C := RX6) (T := TX6) (N := 34) hx hb hts (in_X6_append_X6) hown hK hM h_mo rfl 9 (by decide) (hts (.fieldLink RX6 108 "GroupLogModel" "tapeSize" "I") (List.mem_of_getElem? (i := 2) rfl)) rfl dX6_append_11 ?_
  refine lv_if_eq (tgt := 47) hx hb dX6_append_14 (by decide) (fun c_2 => ?_) (fun c_2 => ?_)
  rotate_left
  · exact absurd c_2 (by decide)
  refine lv_iconst (v := (-1)) hx hb dX6_append_47 (by decide) ?_
  exact mm_iret hx hb hr hlk hM hS (rfl) dX6_append_48

theorem in_X6_start_X6 : ∀ w ∈ u_ws RX6 TX6 34, w ∈ wsX6_start := fun w h => List.mem_cons_of_mem _ (List.mem_append_right _ h)
set_option maxHeartbeats 4000000 in
set_option maxRecDepth 100000 in
theorem c_X6_start {l : Launch} {D : va_G} {A : Nat → Prop} {cI cS cB cZ : ClassId} {M : Nat → Option va_E} {sz : Nat} {mo dk it tq qq qg r1 r2 r3 sc hd : Nat} (h_mo : M mo = some (Sum.inr (6, [.ref dk, .ref it, .int 1, .int (-1), .int 0, .int 10, .int 0, .int 0, .ref tq, .int 0, .ref qq, .int 0, .ref qg, .int 0, .int 0, .int 0, .int 1, .int 1, .int 1, .int 2, .int 2, .int 1, .int 0, .ref r1, .ref r2, .ref r3, .ref sc, .int 0, .ref hd, .int 0, .int 0, .int 0, .int 0, .int 0]) : va_E)) : Met l yX6_start wsX6_start ({ frames := 0, cells := 0, slots := 0, locals := 0 }) (mm_Pc D A (mm_T cI cS cB cZ) M sz [.ref mo]) (mm_Qi D A (fun r M1 => r = (-1))) 0 0 A := by
  refine mm_met (cc := cX6_start) (maxL := 12) (ret := (some .int)) (by decide) rfl (Nat.le_of_ble_eq_true rfl) ?_
  intro p e s m args below meth c hx hb hr hts hown hlk hin hml hsz hK hM hS ls hl
  subst hsz
  have hl : lv_has ls 12 [(0, .ref mo)] := hl
  refine lv_aload_n hx hb dX6_start_0 rfl (lv_at hl 0 rfl) ?_
  refine mm_get (v := .int 1) (ci := 6) (C := RX6) (T := TX6) (N := 34) hx hb hts (in_X6_start_X6) hown hK hM h_mo rfl 2 (by decide) (hts (.fieldLink RX6 17 "GroupLogModel" "isOn" "Z") (List.mem_of_getElem? (i := 1) rfl)) rfl dX6_start_1 ?_
  refine lv_if_eq (tgt := 9) hx hb dX6_start_4 (by decide) (fun c_1 => ?_) (fun c_1 => ?_)
  · exact absurd c_1 (by decide)
  refine lv_iconst (v := (-1)) hx hb dX6_start_7 (by decide) ?_
  exact mm_iret hx hb hr hlk hM hS (rfl) dX6_start_8

theorem in_X6_first_X6 : ∀ w ∈ u_ws RX6 TX6 34, w ∈ wsX6_first := fun w h => List.mem_cons_of_mem _ (List.mem_append_right _ h)
set_option maxHeartbeats 4000000 in
set_option maxRecDepth 100000 in
theorem c_X6_first {l : Launch} {D : va_G} {A : Nat → Prop} {cI cS cB cZ : ClassId} {M : Nat → Option va_E} {sz : Nat} {mo dk it tq qq qg r1 r2 r3 sc hd : Nat} (h_mo : M mo = some (Sum.inr (6, [.ref dk, .ref it, .int 1, .int (-1), .int 0, .int 10, .int 0, .int 0, .ref tq, .int 0, .ref qq, .int 0, .ref qg, .int 0, .int 0, .int 0, .int 1, .int 1, .int 1, .int 2, .int 2, .int 1, .int 0, .ref r1, .ref r2, .ref r3, .ref sc, .int 0, .ref hd, .int 0, .int 0, .int 0, .int 0, .int 0]) : va_E)) : Met l yX6_first wsX6_first ({ frames := 0, cells := 0, slots := 0, locals := 0 }) (mm_Pc D A (mm_T cI cS cB cZ) M sz [.ref mo]) (mm_Qi D A (fun r M1 => r = 1)) 0 0 A := by
  refine mm_met (cc := cX6_first) (maxL := 1) (ret := (some .int)) (by decide) rfl (Nat.le_of_ble_eq_true rfl) ?_
  intro p e s m args below meth c hx hb hr hts hown hlk hin hml hsz hK hM hS ls hl
  subst hsz
  have hl : lv_has ls 1 [(0, .ref mo)] := hl
  refine lv_aload_n hx hb dX6_first_0 rfl (lv_at hl 0 rfl) ?_
  refine mm_get (v := .int 1) (ci := 6) (C := RX6) (T := TX6) (N := 34) hx hb hts (in_X6_first_X6) hown hK hM h_mo rfl 2 (by decide) (hts (.fieldLink RX6 17 "GroupLogModel" "isOn" "Z") (List.mem_of_getElem? (i := 1) rfl)) rfl dX6_first_1 ?_
  refine lv_if_eq (tgt := 14) hx hb dX6_first_4 (by decide) (fun c_1 => ?_) (fun c_1 => ?_)
  · exact absurd c_1 (by decide)
  refine lv_aload_n hx hb dX6_first_7 rfl (lv_at hl 0 rfl) ?_
  refine mm_get (v := .int 1) (ci := 6) (C := RX6) (T := TX6) (N := 34) hx hb hts (in_X6_first_X6) hown hK hM h_mo rfl 18 (by decide) (hts (.fieldLink RX6 44 "GroupLogModel" "firstRecord" "I") (List.mem_of_getElem? (i := 2) rfl)) rfl dX6_first_8 ?_
  refine lv_goto (tgt := 16) hx hb dX6_first_11 (by decide) ?_
  exact mm_iret hx hb hr hlk hM hS (rfl) dX6_first_16

theorem in_X6_safe_X6 : ∀ w ∈ u_ws RX6 TX6 34, w ∈ wsX6_safe := fun w h => List.mem_cons_of_mem _ (List.mem_append_right _ h)
set_option maxHeartbeats 4000000 in
set_option maxRecDepth 100000 in
theorem c_X6_safe {l : Launch} {D : va_G} {A : Nat → Prop} {cI cS cB cZ : ClassId} {M : Nat → Option va_E} {sz : Nat} {mo dk it tq qq qg r1 r2 r3 sc hd : Nat} (h_mo : M mo = some (Sum.inr (6, [.ref dk, .ref it, .int 1, .int (-1), .int 0, .int 10, .int 0, .int 0, .ref tq, .int 0, .ref qq, .int 0, .ref qg, .int 0, .int 0, .int 0, .int 1, .int 1, .int 1, .int 2, .int 2, .int 1, .int 0, .ref r1, .ref r2, .ref r3, .ref sc, .int 0, .ref hd, .int 0, .int 0, .int 0, .int 0, .int 0]) : va_E)) : Met l yX6_safe wsX6_safe ({ frames := 0, cells := 0, slots := 0, locals := 0 }) (mm_Pc D A (mm_T cI cS cB cZ) M sz [.ref mo]) (mm_Qi D A (fun r M1 => r = 0)) 0 0 A := by
  refine mm_met (cc := cX6_safe) (maxL := 1) (ret := (some .int)) (by decide) rfl (Nat.le_of_ble_eq_true rfl) ?_
  intro p e s m args below meth c hx hb hr hts hown hlk hin hml hsz hK hM hS ls hl
  subst hsz
  have hl : lv_has ls 1 [(0, .ref mo)] := hl
  refine lv_aload_n hx hb dX6_safe_0 rfl (lv_at hl 0 rfl) ?_
  refine mm_get (v := .int 1) (ci := 6) (C := RX6) (T := TX6) (N := 34) hx hb hts (in_X6_safe_X6) hown hK hM h_mo rfl 2 (by decide) (hts (.fieldLink RX6 17 "GroupLogModel" "isOn" "Z") (List.mem_of_getElem? (i := 1) rfl)) rfl dX6_safe_1 ?_
  refine lv_if_eq (tgt := 14) hx hb dX6_safe_4 (by decide) (fun c_1 => ?_) (fun c_1 => ?_)
  · exact absurd c_1 (by decide)
  refine lv_aload_n hx hb dX6_safe_7 rfl (lv_at hl 0 rfl) ?_
  refine mm_get (v := .int 0) (ci := 6) (C := RX6) (T := TX6) (N := 34) hx hb hts (in_X6_safe_X6) hown hK hM h_mo rfl 22 (by decide) (hts (.fieldLink RX6 115 "GroupLogModel" "lastSafe" "I") (List.mem_of_getElem? (i := 2) rfl)) rfl dX6_safe_8 ?_
  refine lv_goto (tgt := 16) hx hb dX6_safe_11 (by decide) ?_
  exact mm_iret hx hb hr hlk hM hS (rfl) dX6_safe_16

theorem in_X6_poke_X6 : ∀ w ∈ u_ws RX6 TX6 34, w ∈ wsX6_poke := fun w h => List.mem_cons_of_mem _ (List.mem_append_right _ h)
set_option maxHeartbeats 4000000 in
set_option maxRecDepth 100000 in
theorem c_X6_poke {l : Launch} {D : va_G} {A : Nat → Prop} {cI cS cB cZ : ClassId} {M : Nat → Option va_E} {sz : Nat} {mo dk it tq qq qg r1 r2 r3 sc hd : Nat} {k1 k2 k3 : Int32} (h_mo : M mo = some (Sum.inr (6, [.ref dk, .ref it, .int 1, .int (-1), .int 0, .int 10, .int 0, .int 0, .ref tq, .int 0, .ref qq, .int 0, .ref qg, .int 0, .int 0, .int 0, .int 1, .int 1, .int 1, .int 2, .int 2, .int 1, .int 0, .ref r1, .ref r2, .ref r3, .ref sc, .int 0, .ref hd, .int 0, .int 0, .int 0, .int 0, .int 0]) : va_E)) : Met l yX6_poke wsX6_poke ({ frames := 0, cells := 0, slots := 0, locals := 0 }) (mm_Pc D A (mm_T cI cS cB cZ) M sz [.ref mo, .int k1, .int k2, .int k3]) (mm_Qi D A (fun r M1 => r = 0)) 0 0 A := by
  refine mm_met (cc := cX6_poke) (maxL := 4) (ret := (some .boolean)) (by decide) rfl (Nat.le_of_ble_eq_true rfl) ?_
  intro p e s m args below meth c hx hb hr hts hown hlk hin hml hsz hK hM hS ls hl
  subst hsz
  have hl : lv_has ls 4 [(0, .ref mo), (1, .int k1), (2, .int k2), (3, .int k3)] := hl
  refine lv_aload_n hx hb dX6_poke_0 rfl (lv_at hl 0 rfl) ?_
  refine mm_get (v := .int 1) (ci := 6) (C := RX6) (T := TX6) (N := 34) hx hb hts (in_X6_poke_X6) hown hK hM h_mo rfl 2 (by decide) (hts (.fieldLink RX6 17 "GroupLogModel" "isOn" "Z") (List.mem_of_getElem? (i := 1) rfl)) rfl dX6_poke_1 ?_
  refine lv_if_ne (tgt := 27) hx hb dX6_poke_4 (by decide) (fun c_1 => ?_) (fun c_1 => ?_)
  rotate_left
  · exact absurd c_1 (by decide)
  refine lv_iconst (v := 0) hx hb dX6_poke_27 (by decide) ?_
  exact mm_zret hx hb hr hlk (rfl) hM hS (rfl) dX6_poke_28

theorem in_X6_size_X6 : ∀ w ∈ u_ws RX6 TX6 34, w ∈ wsX6_size := fun w h => List.mem_cons_of_mem _ (List.mem_append_right _ h)
set_option maxHeartbeats 4000000 in
set_option maxRecDepth 100000 in
theorem c_X6_size {l : Launch} {D : va_G} {A : Nat → Prop} {cI cS cB cZ : ClassId} {M : Nat → Option va_E} {sz : Nat} {mo dk it tq qq qg r1 r2 r3 sc hd : Nat} {k : Int32} (h_mo : M mo = some (Sum.inr (6, [.ref dk, .ref it, .int 1, .int (-1), .int 0, .int 10, .int 0, .int 0, .ref tq, .int 0, .ref qq, .int 0, .ref qg, .int 0, .int 0, .int 0, .int 1, .int 1, .int 1, .int 2, .int 2, .int 1, .int 0, .ref r1, .ref r2, .ref r3, .ref sc, .int 0, .ref hd, .int 0, .int 0, .int 0, .int 0, .int 0]) : va_E)) : Met l yX6_size wsX6_size ({ frames := 0, cells := 0, slots := 0, locals := 0 }) (mm_Pc D A (mm_T cI cS cB cZ) M sz [.ref mo, .int k]) (mm_Qi D A (fun r M1 => r = -1 ∧ M1 = M)) 0 0 A := by
  refine mm_met (cc := cX6_size) (maxL := 2) (ret := (some .int)) (by decide) rfl (Nat.le_of_ble_eq_true rfl) ?_
  intro p e s m args below meth c hx hb hr hts hown hlk hin hml hsz hK hM hS ls hl
  subst hsz
  have hl : lv_has ls 2 [(0, .ref mo), (1, .int k)] := hl
  refine lv_aload_n hx hb dX6_size_0 rfl (lv_at hl 0 rfl) ?_
  refine mm_get (v := .int 1) (ci := 6) (C := RX6) (T := TX6) (N := 34) hx hb hts (in_X6_size_X6) hown hK hM h_mo rfl 2 (by decide) (hts (.fieldLink RX6 17 "GroupLogModel" "isOn" "Z") (List.mem_of_getElem? (i := 1) rfl)) rfl dX6_size_1 ?_
  refine lv_if_ne (tgt := 10) hx hb dX6_size_4 (by decide) (fun c_1 => ?_) (fun c_1 => ?_)
  rotate_left
  · exact absurd c_1 (by decide)
  refine lv_iload_n hx hb dX6_size_10 rfl (lv_at hl 1 rfl) ?_
  refine lv_aload_n hx hb dX6_size_11 rfl (lv_at hl 0 rfl) ?_
  refine mm_get (v := .int 1) (ci := 6) (C := RX6) (T := TX6) (N := 34) hx hb hts (in_X6_size_X6) hown hK hM h_mo rfl 18 (by decide) (hts (.fieldLink RX6 44 "GroupLogModel" "firstRecord" "I") (List.mem_of_getElem? (i := 2) rfl)) rfl dX6_size_12 ?_
  refine lv_icmp_lt (tgt := 40) hx hb dX6_size_15 (by decide) (fun c_2 => ?_) (fun c_2 => ?_)
  · skip
    refine lv_iconst (v := (-1)) hx hb dX6_size_40 (by decide) ?_
    exact mm_iret hx hb hr hlk hM hS (⟨rfl, rfl⟩) dX6_size_41
  · skip
    refine lv_iload_n hx hb dX6_size_18 rfl (lv_at hl 1 rfl) ?_
    refine lv_aload_n hx hb dX6_size_19 rfl (lv_at hl 0 rfl) ?_
    refine mm_get (v := .int 0) (ci := 6) (C := RX6) (T := TX6) (N := 34) hx hb hts (in_X6_size_X6) hown hK hM h_mo rfl 22 (by decide) (hts (.fieldLink RX6 115 "GroupLogModel" "lastSafe" "I") (List.mem_of_getElem? (i := 3) rfl)) rfl dX6_size_20 ?_
    refine lv_icmp_gt (tgt := 40) hx hb dX6_size_23 (by decide) (fun c_3 => ?_) (fun c_3 => ?_)
    rotate_left
    · exact absurd c_3 (fun h => h (hs_no c_2))
    refine lv_iconst (v := (-1)) hx hb dX6_size_40 (by decide) ?_
    exact mm_iret hx hb hr hlk hM hS (⟨rfl, rfl⟩) dX6_size_41

theorem at_no {i : Int32} (h : ¬ i < 0) : ¬ i < -1 := by
  rw [Int32.lt_iff_toInt_lt] at h ⊢
  have e1 : (-1 : Int32).toInt = -1 := by decide
  have e0 : (0 : Int32).toInt = 0 := by decide
  omega

theorem in_X6_at_X6 : ∀ w ∈ u_ws RX6 TX6 34, w ∈ wsX6_at := fun w h => List.mem_cons_of_mem _ (List.mem_append_right _ h)
set_option maxHeartbeats 4000000 in
set_option maxRecDepth 100000 in
theorem c_X6_at {l : Launch} {D : va_G} {A : Nat → Prop} {cI cS cB cZ : ClassId} {M : Nat → Option va_E} {sz : Nat} {mo dk it tq qq qg r1 r2 r3 sc hd : Nat} {k i : Int32} (h_mo : M mo = some (Sum.inr (6, [.ref dk, .ref it, .int 1, .int (-1), .int 0, .int 10, .int 0, .int 0, .ref tq, .int 0, .ref qq, .int 0, .ref qg, .int 0, .int 0, .int 0, .int 1, .int 1, .int 1, .int 2, .int 2, .int 1, .int 0, .ref r1, .ref r2, .ref r3, .ref sc, .int 0, .ref hd, .int 0, .int 0, .int 0, .int 0, .int 0]) : va_E)) : Met l yX6_at wsX6_at ({ frames := 1, cells := 0, slots := 0, locals := 21 }) (mm_Pc D A (mm_T cI cS cB cZ) M sz [.ref mo, .int k, .int i]) (mm_Qi D A (fun r M1 => r = -1)) 0 0 A := by
  refine mm_met (cc := cX6_at) (maxL := 6) (ret := (some .int)) (by decide) rfl (Nat.le_of_ble_eq_true rfl) ?_
  intro p e s m args below meth c hx hb hr hts hown hlk hin hml hsz hK hM hS ls hl
  subst hsz
  have hl : lv_has ls 6 [(0, .ref mo), (1, .int k), (2, .int i)] := hl
  refine lv_aload_n hx hb dX6_at_0 rfl (lv_at hl 0 rfl) ?_
  refine mm_get (v := .int 1) (ci := 6) (C := RX6) (T := TX6) (N := 34) hx hb hts (in_X6_at_X6) hown hK hM h_mo rfl 2 (by decide) (hts (.fieldLink RX6 17 "GroupLogModel" "isOn" "Z") (List.mem_of_getElem? (i := 1) rfl)) rfl dX6_at_1 ?_
  refine lv_if_ne (tgt := 10) hx hb dX6_at_4 (by decide) (fun c_1 => ?_) (fun c_1 => ?_)
  rotate_left
  · exact absurd c_1 (by decide)
  refine lv_iload_n hx hb dX6_at_10 rfl (lv_at hl 2 rfl) ?_
  refine lv_if_lt (tgt := 23) hx hb dX6_at_11 (by decide) (fun c_2 => ?_) (fun c_2 => ?_)
  · skip
    refine lv_iconst (v := (-1)) hx hb dX6_at_23 (by decide) ?_
    exact mm_iret hx hb hr hlk hM hS (rfl) dX6_at_24
  · skip
    refine lv_iload_n hx hb dX6_at_14 rfl (lv_at hl 2 rfl) ?_
    refine lv_aload_n hx hb dX6_at_15 rfl (lv_at hl 0 rfl) ?_
    refine lv_iload_n hx hb dX6_at_16 rfl (lv_at hl 1 rfl) ?_
    refine mm_calli (mm_runV (As := [.int k]) (rest := [.int i]) ⟨hx, hb, hml, hown, hts⟩ (c_X6_size h_mo) (cwV 1 hts gX6_at_X6_size rfl rfl rfl (by decide +kernel) ⟨Nat.le_of_ble_eq_true rfl, Nat.le_of_ble_eq_true rfl⟩) hK hM h_mo rfl rfl hl.1 rfl (Nat.le_of_ble_eq_true rfl) dX6_at_17 ⟨Nat.le_of_ble_eq_true rfl, Nat.le_of_ble_eq_true rfl⟩) hS (fun _ h => h) (fun r3 M H locs hp hM hS hz _ => ?_)
    obtain ⟨rfl, hme⟩ := hp
    rw [hme] at hM
    refine lv_icmp_lt (tgt := 25) hx hb dX6_at_20 (by decide) (fun c_4 => ?_) (fun c_4 => ?_)
    · exact absurd c_4 (at_no c_2)
    refine lv_iconst (v := (-1)) hx hb dX6_at_23 (by decide) ?_
    exact mm_iret hx hb hr hlk hM hS (rfl) dX6_at_24

theorem in_X6_flushAll_X6 : ∀ w ∈ u_ws RX6 TX6 34, w ∈ wsX6_flushAll := fun w h => List.mem_cons_of_mem _ (List.mem_append_right _ h)
set_option maxHeartbeats 4000000 in
set_option maxRecDepth 100000 in
theorem c_X6_flushAll {l : Launch} {D : va_G} {A : Nat → Prop} {cI cS cB cZ : ClassId} {M : Nat → Option va_E} {sz : Nat} {mo dk it tq qq qg r1 r2 r3 sc hd : Nat} (h_mo : M mo = some (Sum.inr (6, [.ref dk, .ref it, .int 1, .int (-1), .int 0, .int 10, .int 0, .int 0, .ref tq, .int 0, .ref qq, .int 0, .ref qg, .int 0, .int 0, .int 0, .int 1, .int 1, .int 1, .int 2, .int 2, .int 1, .int 0, .ref r1, .ref r2, .ref r3, .ref sc, .int 0, .ref hd, .int 0, .int 0, .int 0, .int 0, .int 0]) : va_E)) : Met l yX6_flushAll wsX6_flushAll ({ frames := 0, cells := 0, slots := 0, locals := 0 }) (mm_Pc D A (mm_T cI cS cB cZ) M sz [.ref mo]) (mm_Qi D A (fun r M1 => r = 0)) 0 0 A := by
  refine mm_met (cc := cX6_flushAll) (maxL := 7) (ret := (some .int)) (by decide) rfl (Nat.le_of_ble_eq_true rfl) ?_
  intro p e s m args below meth c hx hb hr hts hown hlk hin hml hsz hK hM hS ls hl
  subst hsz
  have hl : lv_has ls 7 [(0, .ref mo)] := hl
  refine lv_iconst (v := 0) hx hb dX6_flushAll_0 (by decide) ?_
  refine lv_istore_n (lv' := [(1, .int 0), (0, .ref mo)]) hx hb dX6_flushAll_1 rfl hl (by decide) rfl (fun ls hl => ?_)
  refine lv_aload_n hx hb dX6_flushAll_2 rfl (lv_at hl 1 rfl) ?_
  refine mm_get (v := .int 2) (ci := 6) (C := RX6) (T := TX6) (N := 34) hx hb hts (in_X6_flushAll_X6) hown hK hM h_mo rfl 20 (by decide) (hts (.fieldLink RX6 50 "GroupLogModel" "nextSector" "I") (List.mem_of_getElem? (i := 1) rfl)) rfl dX6_flushAll_3 ?_
  refine lv_istore_n (lv' := [(2, .int 2), (1, .int 0), (0, .ref mo)]) hx hb dX6_flushAll_6 rfl hl (by decide) rfl (fun ls hl => ?_)
  refine lv_iconst (v := 0) hx hb dX6_flushAll_7 (by decide) ?_
  refine lv_istore_n (lv' := [(3, .int 0), (2, .int 2), (1, .int 0), (0, .ref mo)]) hx hb dX6_flushAll_8 rfl hl (by decide) rfl (fun ls hl => ?_)
  refine lv_iload_n hx hb dX6_flushAll_9 rfl (lv_at hl 0 rfl) ?_
  refine lv_aload_n hx hb dX6_flushAll_10 rfl (lv_at hl 3 rfl) ?_
  refine mm_get (v := .int 0) (ci := 6) (C := RX6) (T := TX6) (N := 34) hx hb hts (in_X6_flushAll_X6) hown hK hM h_mo rfl 11 (by decide) (hts (.fieldLink RX6 99 "GroupLogModel" "queueSize" "I") (List.mem_of_getElem? (i := 2) rfl)) rfl dX6_flushAll_11 ?_
  refine lv_icmp_ge (tgt := 242) hx hb dX6_flushAll_14 (by decide) (fun c_1 => ?_) (fun c_1 => ?_)
  rotate_left
  · exact absurd c_1 (by decide)
  refine lv_iconst (v := 0) hx hb dX6_flushAll_242 (by decide) ?_
  refine lv_istore (lv' := [(4, .int 0), (3, .int 0), (2, .int 2), (1, .int 0), (0, .ref mo)]) hx hb dX6_flushAll_243 hl (by decide) rfl (fun ls hl => ?_)
  refine lv_iload hx hb dX6_flushAll_245 (lv_at hl 0 rfl) ?_
  refine lv_aload_n hx hb dX6_flushAll_247 rfl (lv_at hl 4 rfl) ?_
  refine mm_get (v := .int 0) (ci := 6) (C := RX6) (T := TX6) (N := 34) hx hb hts (in_X6_flushAll_X6) hown hK hM h_mo rfl 13 (by decide) (hts (.fieldLink RX6 102 "GroupLogModel" "queued" "I") (List.mem_of_getElem? (i := 5) rfl)) rfl dX6_flushAll_248 ?_
  refine lv_icmp_ge (tgt := 375) hx hb dX6_flushAll_251 (by decide) (fun c_2 => ?_) (fun c_2 => ?_)
  rotate_left
  · exact absurd c_2 (by decide)
  refine lv_aload_n hx hb dX6_flushAll_375 rfl (lv_at hl 4 rfl) ?_
  refine lv_iconst (v := 2) hx hb dX6_flushAll_376 (by decide) ?_
  refine lv_aload_n hx hb dX6_flushAll_377 rfl (lv_at hl 4 rfl) ?_
  refine mm_get (v := .int 2) (ci := 6) (C := RX6) (T := TX6) (N := 34) hx hb hts (in_X6_flushAll_X6) hown hK hM h_mo rfl 20 (by decide) (hts (.fieldLink RX6 50 "GroupLogModel" "nextSector" "I") (List.mem_of_getElem? (i := 1) rfl)) rfl dX6_flushAll_378 ?_
  refine lv_iconst (v := 2) hx hb dX6_flushAll_381 (by decide) ?_
  refine lv_isub hx hb dX6_flushAll_382 ?_
  refine lv_topi (fun z3 ez3 => ?_)
  have ez3 : z3 = 0 := ez3.trans (by decide)
  subst ez3
  refine lv_iload_n hx hb dX6_flushAll_383 rfl (lv_at hl 3 rfl) ?_
  refine lv_iadd hx hb dX6_flushAll_384 ?_
  refine lv_topi (fun z4 ez4 => ?_)
  have ez4 : z4 = 0 := ez4.trans (by decide)
  subst ez4
  refine lv_bipush (v := 62) hx hb dX6_flushAll_385 (by decide) ?_
  refine lv_irem hx hb dX6_flushAll_387 (by decide) ?_
  refine lv_topi (fun z5 ez5 => ?_)
  have ez5 : z5 = 0 := ez5.trans (by decide)
  subst ez5
  refine lv_iadd hx hb dX6_flushAll_388 ?_
  refine lv_topi (fun z6 ez6 => ?_)
  have ez6 : z6 = 2 := ez6.trans (by decide)
  subst ez6
  refine mm_put (v := .int 2) (ci := 6) (C := RX6) (T := TX6) (N := 34) hx hb hts (in_X6_flushAll_X6) tyX6 tyX6_ok nmX6 hown hK hM hS h_mo rfl 20 (by decide) (hts (.fieldLink RX6 50 "GroupLogModel" "nextSector" "I") (List.mem_of_getElem? (i := 1) rfl)) rfl rfl rfl (Nat.le_of_ble_eq_true rfl) dX6_flushAll_389 (fun H locs M hM ha ho hS => ?_)
  have h_mo : _ = some (Sum.inr (6, [.ref dk, .ref it, .int 1, .int (-1), .int 0, .int 10, .int 0, .int 0, .ref tq, .int 0, .ref qq, .int 0, .ref qg, .int 0, .int 0, .int 0, .int 1, .int 1, .int 1, .int 2, .int 2, .int 1, .int 0, .ref r1, .ref r2, .ref r3, .ref sc, .int 0, .ref hd, .int 0, .int 0, .int 0, .int 0, .int 0]) : va_E) := ha
  refine lv_aload_n hx hb dX6_flushAll_392 rfl (lv_at hl 4 rfl) ?_
  refine lv_dup hx hb dX6_flushAll_393 rfl ?_
  refine mm_get (v := .int 1) (ci := 6) (C := RX6) (T := TX6) (N := 34) hx hb hts (in_X6_flushAll_X6) hown hK hM h_mo rfl 21 (by decide) (hts (.fieldLink RX6 53 "GroupLogModel" "nextSerial" "I") (List.mem_of_getElem? (i := 3) rfl)) rfl dX6_flushAll_394 ?_
  refine lv_iload_n hx hb dX6_flushAll_397 rfl (lv_at hl 3 rfl) ?_
  refine lv_iadd hx hb dX6_flushAll_398 ?_
  refine lv_topi (fun z7 ez7 => ?_)
  have ez7 : z7 = 1 := ez7.trans (by decide)
  subst ez7
  refine mm_put (v := .int 1) (ci := 6) (C := RX6) (T := TX6) (N := 34) hx hb hts (in_X6_flushAll_X6) tyX6 tyX6_ok nmX6 hown hK hM hS h_mo rfl 21 (by decide) (hts (.fieldLink RX6 53 "GroupLogModel" "nextSerial" "I") (List.mem_of_getElem? (i := 3) rfl)) rfl rfl rfl (Nat.le_of_ble_eq_true rfl) dX6_flushAll_399 (fun H locs M hM ha ho hS => ?_)
  have h_mo : _ = some (Sum.inr (6, [.ref dk, .ref it, .int 1, .int (-1), .int 0, .int 10, .int 0, .int 0, .ref tq, .int 0, .ref qq, .int 0, .ref qg, .int 0, .int 0, .int 0, .int 1, .int 1, .int 1, .int 2, .int 2, .int 1, .int 0, .ref r1, .ref r2, .ref r3, .ref sc, .int 0, .ref hd, .int 0, .int 0, .int 0, .int 0, .int 0]) : va_E) := ha
  refine lv_aload_n hx hb dX6_flushAll_402 rfl (lv_at hl 4 rfl) ?_
  refine lv_dup hx hb dX6_flushAll_403 rfl ?_
  refine mm_get (v := .int 0) (ci := 6) (C := RX6) (T := TX6) (N := 34) hx hb hts (in_X6_flushAll_X6) hown hK hM h_mo rfl 7 (by decide) (hts (.fieldLink RX6 132 "GroupLogModel" "flushes" "I") (List.mem_of_getElem? (i := 9) rfl)) rfl dX6_flushAll_404 ?_
  refine lv_iload_n hx hb dX6_flushAll_407 rfl (lv_at hl 3 rfl) ?_
  refine lv_if_le (tgt := 415) hx hb dX6_flushAll_408 (by decide) (fun c_8 => ?_) (fun c_8 => ?_)
  rotate_left
  · exact absurd c_8 (by decide)
  refine lv_iconst (v := 0) hx hb dX6_flushAll_415 (by decide) ?_
  refine lv_iadd hx hb dX6_flushAll_416 ?_
  refine lv_topi (fun z9 ez9 => ?_)
  have ez9 : z9 = 0 := ez9.trans (by decide)
  subst ez9
  refine mm_put (v := .int 0) (ci := 6) (C := RX6) (T := TX6) (N := 34) hx hb hts (in_X6_flushAll_X6) tyX6 tyX6_ok nmX6 hown hK hM hS h_mo rfl 7 (by decide) (hts (.fieldLink RX6 132 "GroupLogModel" "flushes" "I") (List.mem_of_getElem? (i := 9) rfl)) rfl rfl rfl (Nat.le_of_ble_eq_true rfl) dX6_flushAll_417 (fun H locs M hM ha ho hS => ?_)
  have h_mo : _ = some (Sum.inr (6, [.ref dk, .ref it, .int 1, .int (-1), .int 0, .int 10, .int 0, .int 0, .ref tq, .int 0, .ref qq, .int 0, .ref qg, .int 0, .int 0, .int 0, .int 1, .int 1, .int 1, .int 2, .int 2, .int 1, .int 0, .ref r1, .ref r2, .ref r3, .ref sc, .int 0, .ref hd, .int 0, .int 0, .int 0, .int 0, .int 0]) : va_E) := ha
  refine lv_aload_n hx hb dX6_flushAll_420 rfl (lv_at hl 4 rfl) ?_
  refine lv_iconst (v := 0) hx hb dX6_flushAll_421 (by decide) ?_
  refine mm_put (v := .int 0) (ci := 6) (C := RX6) (T := TX6) (N := 34) hx hb hts (in_X6_flushAll_X6) tyX6 tyX6_ok nmX6 hown hK hM hS h_mo rfl 11 (by decide) (hts (.fieldLink RX6 99 "GroupLogModel" "queueSize" "I") (List.mem_of_getElem? (i := 2) rfl)) rfl rfl rfl (Nat.le_of_ble_eq_true rfl) dX6_flushAll_422 (fun H locs M hM ha ho hS => ?_)
  have h_mo : _ = some (Sum.inr (6, [.ref dk, .ref it, .int 1, .int (-1), .int 0, .int 10, .int 0, .int 0, .ref tq, .int 0, .ref qq, .int 0, .ref qg, .int 0, .int 0, .int 0, .int 1, .int 1, .int 1, .int 2, .int 2, .int 1, .int 0, .ref r1, .ref r2, .ref r3, .ref sc, .int 0, .ref hd, .int 0, .int 0, .int 0, .int 0, .int 0]) : va_E) := ha
  refine lv_aload_n hx hb dX6_flushAll_425 rfl (lv_at hl 4 rfl) ?_
  refine lv_iconst (v := 0) hx hb dX6_flushAll_426 (by decide) ?_
  refine mm_put (v := .int 0) (ci := 6) (C := RX6) (T := TX6) (N := 34) hx hb hts (in_X6_flushAll_X6) tyX6 tyX6_ok nmX6 hown hK hM hS h_mo rfl 13 (by decide) (hts (.fieldLink RX6 102 "GroupLogModel" "queued" "I") (List.mem_of_getElem? (i := 5) rfl)) rfl rfl rfl (Nat.le_of_ble_eq_true rfl) dX6_flushAll_427 (fun H locs M hM ha ho hS => ?_)
  have h_mo : _ = some (Sum.inr (6, [.ref dk, .ref it, .int 1, .int (-1), .int 0, .int 10, .int 0, .int 0, .ref tq, .int 0, .ref qq, .int 0, .ref qg, .int 0, .int 0, .int 0, .int 1, .int 1, .int 1, .int 2, .int 2, .int 1, .int 0, .ref r1, .ref r2, .ref r3, .ref sc, .int 0, .ref hd, .int 0, .int 0, .int 0, .int 0, .int 0]) : va_E) := ha
  refine lv_aload_n hx hb dX6_flushAll_430 rfl (lv_at hl 4 rfl) ?_
  refine lv_iconst (v := 0) hx hb dX6_flushAll_431 (by decide) ?_
  refine mm_put (v := .int 0) (ci := 6) (C := RX6) (T := TX6) (N := 34) hx hb hts (in_X6_flushAll_X6) tyX6 tyX6_ok nmX6 hown hK hM hS h_mo rfl 14 (by decide) (hts (.fieldLink RX6 105 "GroupLogModel" "waited" "I") (List.mem_of_getElem? (i := 15) rfl)) rfl rfl rfl (Nat.le_of_ble_eq_true rfl) dX6_flushAll_432 (fun H locs M hM ha ho hS => ?_)
  have h_mo : _ = some (Sum.inr (6, [.ref dk, .ref it, .int 1, .int (-1), .int 0, .int 10, .int 0, .int 0, .ref tq, .int 0, .ref qq, .int 0, .ref qg, .int 0, .int 0, .int 0, .int 1, .int 1, .int 1, .int 2, .int 2, .int 1, .int 0, .ref r1, .ref r2, .ref r3, .ref sc, .int 0, .ref hd, .int 0, .int 0, .int 0, .int 0, .int 0]) : va_E) := ha
  refine lv_iload_n hx hb dX6_flushAll_435 rfl (lv_at hl 3 rfl) ?_
  exact mm_iret hx hb hr hlk hM hS (rfl) dX6_flushAll_436

theorem in_X6_flush_X6 : ∀ w ∈ u_ws RX6 TX6 34, w ∈ wsX6_flush := fun w h => List.mem_cons_of_mem _ (List.mem_append_right _ h)
set_option maxHeartbeats 4000000 in
set_option maxRecDepth 100000 in
theorem c_X6_flush {l : Launch} {D : va_G} {A : Nat → Prop} {cI cS cB cZ : ClassId} {M : Nat → Option va_E} {sz : Nat} {mo dk it tq qq qg r1 r2 r3 sc hd : Nat} (h_mo : M mo = some (Sum.inr (6, [.ref dk, .ref it, .int 1, .int (-1), .int 0, .int 10, .int 0, .int 0, .ref tq, .int 0, .ref qq, .int 0, .ref qg, .int 0, .int 0, .int 0, .int 1, .int 1, .int 1, .int 2, .int 2, .int 1, .int 0, .ref r1, .ref r2, .ref r3, .ref sc, .int 0, .ref hd, .int 0, .int 0, .int 0, .int 0, .int 0]) : va_E)) : Met l yX6_flush wsX6_flush ({ frames := 1, cells := 0, slots := 0, locals := 26 }) (mm_Pc D A (mm_T cI cS cB cZ) M sz [.ref mo]) (mm_Qi D A (fun r M1 => r = 0)) 0 0 A := by
  refine mm_met (cc := cX6_flush) (maxL := 1) (ret := (some .int)) (by decide) rfl (Nat.le_of_ble_eq_true rfl) ?_
  intro p e s m args below meth c hx hb hr hts hown hlk hin hml hsz hK hM hS ls hl
  subst hsz
  have hl : lv_has ls 1 [(0, .ref mo)] := hl
  refine lv_aload_n hx hb dX6_flush_0 rfl (lv_at hl 0 rfl) ?_
  refine mm_get (v := .int 1) (ci := 6) (C := RX6) (T := TX6) (N := 34) hx hb hts (in_X6_flush_X6) hown hK hM h_mo rfl 2 (by decide) (hts (.fieldLink RX6 17 "GroupLogModel" "isOn" "Z") (List.mem_of_getElem? (i := 1) rfl)) rfl dX6_flush_1 ?_
  refine lv_if_eq (tgt := 14) hx hb dX6_flush_4 (by decide) (fun c_1 => ?_) (fun c_1 => ?_)
  · exact absurd c_1 (by decide)
  refine lv_aload_n hx hb dX6_flush_7 rfl (lv_at hl 0 rfl) ?_
  refine mm_calli (mm_runV (As := []) (rest := []) ⟨hx, hb, hml, hown, hts⟩ (c_X6_flushAll h_mo) (cwV 0 hts gX6_flush_X6_flushAll rfl rfl rfl (by decide +kernel) ⟨Nat.le_of_ble_eq_true rfl, Nat.le_of_ble_eq_true rfl⟩) hK hM h_mo rfl rfl hl.1 rfl (Nat.le_of_ble_eq_true rfl) dX6_flush_8 ⟨Nat.le_of_ble_eq_true rfl, Nat.le_of_ble_eq_true rfl⟩) hS (fun _ h => h) (fun r2 M H locs hp hM hS hz _ => ?_)
  subst hp
  refine lv_goto (tgt := 16) hx hb dX6_flush_11 (by decide) ?_
  exact mm_iret hx hb hr hlk hM hS (rfl) dX6_flush_16

theorem in_X6_goOff_X6 : ∀ w ∈ u_ws RX6 TX6 34, w ∈ wsX6_goOff := fun w h => List.mem_cons_of_mem _ (List.mem_append_right _ h)
set_option maxHeartbeats 4000000 in
set_option maxRecDepth 100000 in
theorem c_X6_goOff {l : Launch} {D : va_G} {A : Nat → Prop} {cI cS cB cZ : ClassId} {M : Nat → Option va_E} {sz : Nat} {mo dk it tq qq qg r1 r2 r3 sc hd : Nat} (h_mo : M mo = some (Sum.inr (6, [.ref dk, .ref it, .int 1, .int (-1), .int 0, .int 10, .int 0, .int 0, .ref tq, .int 0, .ref qq, .int 0, .ref qg, .int 0, .int 0, .int 0, .int 1, .int 1, .int 1, .int 2, .int 2, .int 1, .int 0, .ref r1, .ref r2, .ref r3, .ref sc, .int 0, .ref hd, .int 0, .int 0, .int 0, .int 0, .int 0]) : va_E)) : Met l yX6_goOff wsX6_goOff ({ frames := 0, cells := 0, slots := 0, locals := 0 }) (mm_Pc D A (mm_T cI cS cB cZ) M sz [.ref mo]) (mm_Qv D A (fun M1 => True)) 0 0 A := by
  refine mm_met (cc := cX6_goOff) (maxL := 1) (ret := none) (by decide) rfl (Nat.le_of_ble_eq_true rfl) ?_
  intro p e s m args below meth c hx hb hr hts hown hlk hin hml hsz hK hM hS ls hl
  subst hsz
  have hl : lv_has ls 1 [(0, .ref mo)] := hl
  refine lv_aload_n hx hb dX6_goOff_0 rfl (lv_at hl 0 rfl) ?_
  refine lv_iconst (v := 0) hx hb dX6_goOff_1 (by decide) ?_
  refine mm_put (v := .int 0) (ci := 6) (C := RX6) (T := TX6) (N := 34) hx hb hts (in_X6_goOff_X6) tyX6 tyX6_ok nmX6 hown hK hM hS h_mo rfl 2 (by decide) (hts (.fieldLink RX6 17 "GroupLogModel" "isOn" "Z") (List.mem_of_getElem? (i := 1) rfl)) rfl rfl rfl (Nat.le_of_ble_eq_true rfl) dX6_goOff_2 (fun H locs M hM ha ho hS => ?_)
  have h_mo : _ = some (Sum.inr (6, [.ref dk, .ref it, .int 0, .int (-1), .int 0, .int 10, .int 0, .int 0, .ref tq, .int 0, .ref qq, .int 0, .ref qg, .int 0, .int 0, .int 0, .int 1, .int 1, .int 1, .int 2, .int 2, .int 1, .int 0, .ref r1, .ref r2, .ref r3, .ref sc, .int 0, .ref hd, .int 0, .int 0, .int 0, .int 0, .int 0]) : va_E) := ha
  refine lv_aload_n hx hb dX6_goOff_5 rfl (lv_at hl 0 rfl) ?_
  refine lv_iconst (v := (-1)) hx hb dX6_goOff_6 (by decide) ?_
  refine mm_put (v := .int (-1)) (ci := 6) (C := RX6) (T := TX6) (N := 34) hx hb hts (in_X6_goOff_X6) tyX6 tyX6_ok nmX6 hown hK hM hS h_mo rfl 3 (by decide) (hts (.fieldLink RX6 21 "GroupLogModel" "armed" "I") (List.mem_of_getElem? (i := 2) rfl)) rfl rfl rfl (Nat.le_of_ble_eq_true rfl) dX6_goOff_7 (fun H locs M hM ha ho hS => ?_)
  have h_mo : _ = some (Sum.inr (6, [.ref dk, .ref it, .int 0, .int (-1), .int 0, .int 10, .int 0, .int 0, .ref tq, .int 0, .ref qq, .int 0, .ref qg, .int 0, .int 0, .int 0, .int 1, .int 1, .int 1, .int 2, .int 2, .int 1, .int 0, .ref r1, .ref r2, .ref r3, .ref sc, .int 0, .ref hd, .int 0, .int 0, .int 0, .int 0, .int 0]) : va_E) := ha
  refine lv_aload_n hx hb dX6_goOff_10 rfl (lv_at hl 0 rfl) ?_
  refine lv_iconst (v := 0) hx hb dX6_goOff_11 (by decide) ?_
  refine mm_put (v := .int 0) (ci := 6) (C := RX6) (T := TX6) (N := 34) hx hb hts (in_X6_goOff_X6) tyX6 tyX6_ok nmX6 hown hK hM hS h_mo rfl 11 (by decide) (hts (.fieldLink RX6 99 "GroupLogModel" "queueSize" "I") (List.mem_of_getElem? (i := 3) rfl)) rfl rfl rfl (Nat.le_of_ble_eq_true rfl) dX6_goOff_12 (fun H locs M hM ha ho hS => ?_)
  have h_mo : _ = some (Sum.inr (6, [.ref dk, .ref it, .int 0, .int (-1), .int 0, .int 10, .int 0, .int 0, .ref tq, .int 0, .ref qq, .int 0, .ref qg, .int 0, .int 0, .int 0, .int 1, .int 1, .int 1, .int 2, .int 2, .int 1, .int 0, .ref r1, .ref r2, .ref r3, .ref sc, .int 0, .ref hd, .int 0, .int 0, .int 0, .int 0, .int 0]) : va_E) := ha
  refine lv_aload_n hx hb dX6_goOff_15 rfl (lv_at hl 0 rfl) ?_
  refine lv_iconst (v := 0) hx hb dX6_goOff_16 (by decide) ?_
  refine mm_put (v := .int 0) (ci := 6) (C := RX6) (T := TX6) (N := 34) hx hb hts (in_X6_goOff_X6) tyX6 tyX6_ok nmX6 hown hK hM hS h_mo rfl 13 (by decide) (hts (.fieldLink RX6 102 "GroupLogModel" "queued" "I") (List.mem_of_getElem? (i := 4) rfl)) rfl rfl rfl (Nat.le_of_ble_eq_true rfl) dX6_goOff_17 (fun H locs M hM ha ho hS => ?_)
  have h_mo : _ = some (Sum.inr (6, [.ref dk, .ref it, .int 0, .int (-1), .int 0, .int 10, .int 0, .int 0, .ref tq, .int 0, .ref qq, .int 0, .ref qg, .int 0, .int 0, .int 0, .int 1, .int 1, .int 1, .int 2, .int 2, .int 1, .int 0, .ref r1, .ref r2, .ref r3, .ref sc, .int 0, .ref hd, .int 0, .int 0, .int 0, .int 0, .int 0]) : va_E) := ha
  refine lv_aload_n hx hb dX6_goOff_20 rfl (lv_at hl 0 rfl) ?_
  refine lv_iconst (v := 0) hx hb dX6_goOff_21 (by decide) ?_
  refine mm_put (v := .int 0) (ci := 6) (C := RX6) (T := TX6) (N := 34) hx hb hts (in_X6_goOff_X6) tyX6 tyX6_ok nmX6 hown hK hM hS h_mo rfl 14 (by decide) (hts (.fieldLink RX6 105 "GroupLogModel" "waited" "I") (List.mem_of_getElem? (i := 5) rfl)) rfl rfl rfl (Nat.le_of_ble_eq_true rfl) dX6_goOff_22 (fun H locs M hM ha ho hS => ?_)
  have h_mo : _ = some (Sum.inr (6, [.ref dk, .ref it, .int 0, .int (-1), .int 0, .int 10, .int 0, .int 0, .ref tq, .int 0, .ref qq, .int 0, .ref qg, .int 0, .int 0, .int 0, .int 1, .int 1, .int 1, .int 2, .int 2, .int 1, .int 0, .ref r1, .ref r2, .ref r3, .ref sc, .int 0, .ref hd, .int 0, .int 0, .int 0, .int 0, .int 0]) : va_E) := ha
  exact mm_vret hx hb hr hlk hM hS (trivial) dX6_goOff_25

theorem in_X6_cut_X6 : ∀ w ∈ u_ws RX6 TX6 34, w ∈ wsX6_cut := fun w h => List.mem_cons_of_mem _ (List.mem_append_right _ h)
set_option maxHeartbeats 4000000 in
set_option maxRecDepth 100000 in
theorem c_X6_cut {l : Launch} {D : va_G} {A : Nat → Prop} {cI cS cB cZ : ClassId} {M : Nat → Option va_E} {sz : Nat} {mo dk it tq qq qg r1 r2 r3 sc hd : Nat} (h_mo : M mo = some (Sum.inr (6, [.ref dk, .ref it, .int 1, .int (-1), .int 0, .int 10, .int 0, .int 0, .ref tq, .int 0, .ref qq, .int 0, .ref qg, .int 0, .int 0, .int 0, .int 1, .int 1, .int 1, .int 2, .int 2, .int 1, .int 0, .ref r1, .ref r2, .ref r3, .ref sc, .int 0, .ref hd, .int 0, .int 0, .int 0, .int 0, .int 0]) : va_E)) : Met l yX6_cut wsX6_cut ({ frames := 1, cells := 0, slots := 0, locals := 20 }) (mm_Pc D A (mm_T cI cS cB cZ) M sz [.ref mo]) (mm_Qi D A (fun r M1 => r = 1)) 0 0 A := by
  refine mm_met (cc := cX6_cut) (maxL := 1) (ret := (some .boolean)) (by decide) rfl (Nat.le_of_ble_eq_true rfl) ?_
  intro p e s m args below meth c hx hb hr hts hown hlk hin hml hsz hK hM hS ls hl
  subst hsz
  have hl : lv_has ls 1 [(0, .ref mo)] := hl
  refine lv_aload_n hx hb dX6_cut_0 rfl (lv_at hl 0 rfl) ?_
  refine mm_get (v := .int 1) (ci := 6) (C := RX6) (T := TX6) (N := 34) hx hb hts (in_X6_cut_X6) hown hK hM h_mo rfl 2 (by decide) (hts (.fieldLink RX6 17 "GroupLogModel" "isOn" "Z") (List.mem_of_getElem? (i := 1) rfl)) rfl dX6_cut_1 ?_
  refine lv_if_ne (tgt := 9) hx hb dX6_cut_4 (by decide) (fun c_1 => ?_) (fun c_1 => ?_)
  rotate_left
  · exact absurd c_1 (by decide)
  refine lv_aload_n hx hb dX6_cut_9 rfl (lv_at hl 0 rfl) ?_
  refine mm_callv (mm_runV (As := []) (rest := []) ⟨hx, hb, hml, hown, hts⟩ (c_X6_goOff h_mo) (cwV 0 hts gX6_cut_X6_goOff rfl rfl rfl (by decide +kernel) ⟨Nat.le_of_ble_eq_true rfl, Nat.le_of_ble_eq_true rfl⟩) hK hM h_mo rfl rfl hl.1 rfl (Nat.le_of_ble_eq_true rfl) dX6_cut_10 ⟨Nat.le_of_ble_eq_true rfl, Nat.le_of_ble_eq_true rfl⟩) hS (fun _ h => h) (fun M H locs hp hM hS hz _ => ?_)
  refine lv_iconst (v := 1) hx hb dX6_cut_13 (by decide) ?_
  exact mm_zret hx hb hr hlk (rfl) hM hS (rfl) dX6_cut_14

theorem in_X6_used_X6 : ∀ w ∈ u_ws RX6 TX6 34, w ∈ wsX6_used := fun w h => List.mem_cons_of_mem _ (List.mem_append_right _ h)
set_option maxHeartbeats 4000000 in
set_option maxRecDepth 100000 in
theorem c_X6_used {l : Launch} {D : va_G} {A : Nat → Prop} {cI cS cB cZ : ClassId} {M : Nat → Option va_E} {sz : Nat} {mo dk it tq qq qg r1 r2 r3 sc hd : Nat} (h_mo : M mo = some (Sum.inr (6, [.ref dk, .ref it, .int 1, .int (-1), .int 0, .int 10, .int 0, .int 0, .ref tq, .int 0, .ref qq, .int 0, .ref qg, .int 0, .int 0, .int 0, .int 1, .int 1, .int 1, .int 2, .int 2, .int 1, .int 0, .ref r1, .ref r2, .ref r3, .ref sc, .int 0, .ref hd, .int 0, .int 0, .int 0, .int 0, .int 0]) : va_E)) : Met l yX6_used wsX6_used ({ frames := 0, cells := 0, slots := 0, locals := 0 }) (mm_Pc D A (mm_T cI cS cB cZ) M sz [.ref mo]) (mm_Qi D A (fun r M1 => r = 0 ∧ M1 = M)) 0 0 A := by
  refine mm_met (cc := cX6_used) (maxL := 1) (ret := (some .int)) (by decide) rfl (Nat.le_of_ble_eq_true rfl) ?_
  intro p e s m args below meth c hx hb hr hts hown hlk hin hml hsz hK hM hS ls hl
  subst hsz
  have hl : lv_has ls 1 [(0, .ref mo)] := hl
  refine lv_aload_n hx hb dX6_used_0 rfl (lv_at hl 0 rfl) ?_
  refine mm_get (v := .int 1) (ci := 6) (C := RX6) (T := TX6) (N := 34) hx hb hts (in_X6_used_X6) hown hK hM h_mo rfl 21 (by decide) (hts (.fieldLink RX6 53 "GroupLogModel" "nextSerial" "I") (List.mem_of_getElem? (i := 1) rfl)) rfl dX6_used_1 ?_
  refine lv_aload_n hx hb dX6_used_4 rfl (lv_at hl 0 rfl) ?_
  refine mm_get (v := .int 1) (ci := 6) (C := RX6) (T := TX6) (N := 34) hx hb hts (in_X6_used_X6) hown hK hM h_mo rfl 17 (by decide) (hts (.fieldLink RX6 41 "GroupLogModel" "firstSerial" "I") (List.mem_of_getElem? (i := 2) rfl)) rfl dX6_used_5 ?_
  refine lv_isub hx hb dX6_used_8 ?_
  refine lv_topi (fun z1 ez1 => ?_)
  have ez1 : z1 = 0 := ez1.trans (by decide)
  subst ez1
  exact mm_iret hx hb hr hlk hM hS (⟨rfl, rfl⟩) dX6_used_9

theorem in_X6_arm_X6 : ∀ w ∈ u_ws RX6 TX6 34, w ∈ wsX6_arm := fun w h => List.mem_cons_of_mem _ (List.mem_append_right _ h)
set_option maxHeartbeats 4000000 in
set_option maxRecDepth 100000 in
theorem c_X6_arm {l : Launch} {D : va_G} {A : Nat → Prop} {cI cS cB cZ : ClassId} {M : Nat → Option va_E} {sz : Nat} {mo dk it tq qq qg r1 r2 r3 sc hd : Nat} {n pt : Int32} (h_mo : M mo = some (Sum.inr (6, [.ref dk, .ref it, .int 1, .int (-1), .int 0, .int 10, .int 0, .int 0, .ref tq, .int 0, .ref qq, .int 0, .ref qg, .int 0, .int 0, .int 0, .int 1, .int 1, .int 1, .int 2, .int 2, .int 1, .int 0, .ref r1, .ref r2, .ref r3, .ref sc, .int 0, .ref hd, .int 0, .int 0, .int 0, .int 0, .int 0]) : va_E)) : Met l yX6_arm wsX6_arm ({ frames := 0, cells := 0, slots := 0, locals := 0 }) (mm_Pc D A (mm_T cI cS cB cZ) M sz [.ref mo, .int n, .int pt]) (mm_Qi D A (fun r M1 => r = ar_f n pt)) 0 0 A := by
  refine mm_met (cc := cX6_arm) (maxL := 3) (ret := (some .boolean)) (by decide) rfl (Nat.le_of_ble_eq_true rfl) ?_
  intro p e s m args below meth c hx hb hr hts hown hlk hin hml hsz hK hM hS ls hl
  subst hsz
  have hl : lv_has ls 3 [(0, .ref mo), (1, .int n), (2, .int pt)] := hl
  refine lv_aload_n hx hb dX6_arm_0 rfl (lv_at hl 0 rfl) ?_
  refine mm_get (v := .int 1) (ci := 6) (C := RX6) (T := TX6) (N := 34) hx hb hts (in_X6_arm_X6) hown hK hM h_mo rfl 2 (by decide) (hts (.fieldLink RX6 17 "GroupLogModel" "isOn" "Z") (List.mem_of_getElem? (i := 1) rfl)) rfl dX6_arm_1 ?_
  refine lv_if_eq (tgt := 27) hx hb dX6_arm_4 (by decide) (fun c_1 => ?_) (fun c_1 => ?_)
  · exact absurd c_1 (by decide)
  refine lv_iload_n hx hb dX6_arm_7 rfl (lv_at hl 1 rfl) ?_
  refine lv_if_lt (tgt := 27) hx hb dX6_arm_8 (by decide) (fun c_2 => ?_) (fun c_2 => ?_)
  · skip
    refine lv_iconst (v := 0) hx hb dX6_arm_27 (by decide) ?_
    exact mm_zret hx hb hr hlk (rfl) hM hS (by unfold ar_f; rw [if_pos c_2]) dX6_arm_28
  · skip
    refine lv_iload_n hx hb dX6_arm_11 rfl (lv_at hl 1 rfl) ?_
    refine lv_bipush (v := 100) hx hb dX6_arm_12 (by decide) ?_
    refine lv_icmp_gt (tgt := 27) hx hb dX6_arm_14 (by decide) (fun c_3 => ?_) (fun c_3 => ?_)
    · skip
      refine lv_iconst (v := 0) hx hb dX6_arm_27 (by decide) ?_
      exact mm_zret hx hb hr hlk (rfl) hM hS (by unfold ar_f; rw [if_neg c_2, if_pos c_3]) dX6_arm_28
    · skip
      refine lv_iload_n hx hb dX6_arm_17 rfl (lv_at hl 2 rfl) ?_
      refine lv_if_lt (tgt := 27) hx hb dX6_arm_18 (by decide) (fun c_4 => ?_) (fun c_4 => ?_)
      · skip
        refine lv_iconst (v := 0) hx hb dX6_arm_27 (by decide) ?_
        exact mm_zret hx hb hr hlk (rfl) hM hS (by unfold ar_f; rw [if_neg c_2, if_neg c_3, if_pos c_4]) dX6_arm_28
      · skip
        refine lv_iload_n hx hb dX6_arm_21 rfl (lv_at hl 2 rfl) ?_
        refine lv_bipush (v := 63) hx hb dX6_arm_22 (by decide) ?_
        refine lv_icmp_le (tgt := 29) hx hb dX6_arm_24 (by decide) (fun c_5 => ?_) (fun c_5 => ?_)
        · skip
          refine lv_aload_n hx hb dX6_arm_29 rfl (lv_at hl 0 rfl) ?_
          refine lv_iload_n hx hb dX6_arm_30 rfl (lv_at hl 1 rfl) ?_
          refine mm_put (v := .int n) (ci := 6) (C := RX6) (T := TX6) (N := 34) hx hb hts (in_X6_arm_X6) tyX6 tyX6_ok nmX6 hown hK hM hS h_mo rfl 3 (by decide) (hts (.fieldLink RX6 21 "GroupLogModel" "armed" "I") (List.mem_of_getElem? (i := 2) rfl)) rfl rfl rfl (Nat.le_of_ble_eq_true rfl) dX6_arm_31 (fun H locs M hM ha ho hS => ?_)
          have h_mo : _ = some (Sum.inr (6, [.ref dk, .ref it, .int 1, .int n, .int 0, .int 10, .int 0, .int 0, .ref tq, .int 0, .ref qq, .int 0, .ref qg, .int 0, .int 0, .int 0, .int 1, .int 1, .int 1, .int 2, .int 2, .int 1, .int 0, .ref r1, .ref r2, .ref r3, .ref sc, .int 0, .ref hd, .int 0, .int 0, .int 0, .int 0, .int 0]) : va_E) := ha
          refine lv_aload_n hx hb dX6_arm_34 rfl (lv_at hl 0 rfl) ?_
          refine lv_iload_n hx hb dX6_arm_35 rfl (lv_at hl 2 rfl) ?_
          refine mm_put (v := .int pt) (ci := 6) (C := RX6) (T := TX6) (N := 34) hx hb hts (in_X6_arm_X6) tyX6 tyX6_ok nmX6 hown hK hM hS h_mo rfl 4 (by decide) (hts (.fieldLink RX6 90 "GroupLogModel" "armedPart" "I") (List.mem_of_getElem? (i := 3) rfl)) rfl rfl rfl (Nat.le_of_ble_eq_true rfl) dX6_arm_36 (fun H locs M hM ha ho hS => ?_)
          have h_mo : _ = some (Sum.inr (6, [.ref dk, .ref it, .int 1, .int n, .int pt, .int 10, .int 0, .int 0, .ref tq, .int 0, .ref qq, .int 0, .ref qg, .int 0, .int 0, .int 0, .int 1, .int 1, .int 1, .int 2, .int 2, .int 1, .int 0, .ref r1, .ref r2, .ref r3, .ref sc, .int 0, .ref hd, .int 0, .int 0, .int 0, .int 0, .int 0]) : va_E) := ha
          refine lv_iconst (v := 1) hx hb dX6_arm_39 (by decide) ?_
          exact mm_zret hx hb hr hlk (rfl) hM hS (by unfold ar_f; rw [if_neg c_2, if_neg c_3, if_neg c_4, if_neg (tk_le.mp c_5)]) dX6_arm_40
        · skip
          refine lv_iconst (v := 0) hx hb dX6_arm_27 (by decide) ?_
          exact mm_zret hx hb hr hlk (rfl) hM hS (by unfold ar_f; rw [if_neg c_2, if_neg c_3, if_neg c_4, if_pos (tk_gt.mp c_5)]) dX6_arm_28

set_option maxHeartbeats 4000000 in
set_option maxRecDepth 100000 in
theorem c_X6_isByte {l : Launch} {D : va_G} {A : Nat → Prop} {cI cS cB cZ : ClassId} {M : Nat → Option va_E} {sz : Nat} {k i : Int32}  : Met l yX6_isByte wsX6_isByte ({ frames := 0, cells := 0, slots := 0, locals := 0 }) (mm_Pc D A (mm_T cI cS cB cZ) M sz [.int k, .int i]) (mm_Qi D A (fun r M1 => r = ib_f k i ∧ M1 = M)) 0 0 A := by
  refine mm_met (cc := cX6_isByte) (maxL := 2) (ret := (some .boolean)) (by decide) rfl (Nat.le_of_ble_eq_true rfl) ?_
  intro p e s m args below meth c hx hb hr hts hown hlk hin hml hsz hK hM hS ls hl
  subst hsz
  have hl : lv_has ls 2 [(0, .int k), (1, .int i)] := hl
  refine lv_iload_n hx hb dX6_isByte_0 rfl (lv_at hl 0 rfl) ?_
  refine lv_if_lt (tgt := 24) hx hb dX6_isByte_1 (by decide) (fun c_1 => ?_) (fun c_1 => ?_)
  · skip
    refine lv_iconst (v := 0) hx hb dX6_isByte_24 (by decide) ?_
    exact mm_zret hx hb hr hlk (rfl) hM hS (⟨by unfold ib_f; rw [if_pos c_1], rfl⟩) dX6_isByte_25
  · skip
    refine lv_iload_n hx hb dX6_isByte_4 rfl (lv_at hl 0 rfl) ?_
    refine lv_bipush (v := 64) hx hb dX6_isByte_5 (by decide) ?_
    refine lv_icmp_ge (tgt := 24) hx hb dX6_isByte_7 (by decide) (fun c_2 => ?_) (fun c_2 => ?_)
    · skip
      refine lv_iconst (v := 0) hx hb dX6_isByte_24 (by decide) ?_
      exact mm_zret hx hb hr hlk (rfl) hM hS (⟨by unfold ib_f; rw [if_neg c_1, if_pos c_2], rfl⟩) dX6_isByte_25
    · skip
      refine lv_iload_n hx hb dX6_isByte_10 rfl (lv_at hl 1 rfl) ?_
      refine lv_if_lt (tgt := 24) hx hb dX6_isByte_11 (by decide) (fun c_3 => ?_) (fun c_3 => ?_)
      · skip
        refine lv_iconst (v := 0) hx hb dX6_isByte_24 (by decide) ?_
        exact mm_zret hx hb hr hlk (rfl) hM hS (⟨by unfold ib_f; rw [if_neg c_1, if_neg c_2, if_pos c_3], rfl⟩) dX6_isByte_25
      · skip
        refine lv_iload_n hx hb dX6_isByte_14 rfl (lv_at hl 1 rfl) ?_
        refine lv_bipush (v := 64) hx hb dX6_isByte_15 (by decide) ?_
        refine lv_icmp_ge (tgt := 24) hx hb dX6_isByte_17 (by decide) (fun c_4 => ?_) (fun c_4 => ?_)
        · skip
          refine lv_iconst (v := 0) hx hb dX6_isByte_24 (by decide) ?_
          exact mm_zret hx hb hr hlk (rfl) hM hS (⟨by unfold ib_f; rw [if_neg c_1, if_neg c_2, if_neg c_3, if_pos c_4], rfl⟩) dX6_isByte_25
        · skip
          refine lv_iconst (v := 1) hx hb dX6_isByte_20 (by decide) ?_
          refine lv_goto (tgt := 25) hx hb dX6_isByte_21 (by decide) ?_
          exact mm_zret hx hb hr hlk (rfl) hM hS (⟨by unfold ib_f; rw [if_neg c_1, if_neg c_2, if_neg c_3, if_neg c_4], rfl⟩) dX6_isByte_25

theorem in_X6_disk_X6 : ∀ w ∈ u_ws RX6 TX6 34, w ∈ wsX6_disk := fun w h => List.mem_cons_of_mem _ (List.mem_append_right _ h)
set_option maxHeartbeats 4000000 in
set_option maxRecDepth 100000 in
theorem c_X6_disk {l : Launch} {D : va_G} {A : Nat → Prop} {cI cS cB cZ : ClassId} {M : Nat → Option va_E} {sz : Nat} {mo dk it tq qq qg r1 r2 r3 sc hd : Nat} {k i : Int32} (h_mo : M mo = some (Sum.inr (6, [.ref dk, .ref it, .int 1, .int (-1), .int 0, .int 10, .int 0, .int 0, .ref tq, .int 0, .ref qq, .int 0, .ref qg, .int 0, .int 0, .int 0, .int 1, .int 1, .int 1, .int 2, .int 2, .int 1, .int 0, .ref r1, .ref r2, .ref r3, .ref sc, .int 0, .ref hd, .int 0, .int 0, .int 0, .int 0, .int 0]) : va_E)) (h_dk : M dk = some (Sum.inl (cB, 4096, .inl (md_F)) : va_E)) : Met l yX6_disk wsX6_disk ({ frames := 1, cells := 0, slots := 0, locals := 21 }) (mm_Pc D A (mm_T cI cS cB cZ) M sz [.ref mo, .int k, .int i]) (mm_Qi D A (fun r M1 => r = dk_f k i)) 0 0 A := by
  refine mm_met (cc := cX6_disk) (maxL := 3) (ret := (some .int)) (by decide) rfl (Nat.le_of_ble_eq_true rfl) ?_
  intro p e s m args below meth c hx hb hr hts hown hlk hin hml hsz hK hM hS ls hl
  subst hsz
  have hl : lv_has ls 3 [(0, .ref mo), (1, .int k), (2, .int i)] := hl
  refine lv_iload_n hx hb dX6_disk_0 rfl (lv_at hl 1 rfl) ?_
  refine lv_iload_n hx hb dX6_disk_1 rfl (lv_at hl 2 rfl) ?_
  refine mm_calli (mm_runS (As := [.int k, .int i]) (rest := []) ⟨hx, hb, hml, hown, hts⟩ (c_X6_isByte ) (va_cwS 2 hts gX6_disk_X6_isByte rfl rfl rfl (by decide +kernel) ⟨Nat.le_of_ble_eq_true rfl, Nat.le_of_ble_eq_true rfl⟩) hK hM rfl hl.1 rfl (Nat.le_of_ble_eq_true rfl) dX6_disk_2 ⟨Nat.le_of_ble_eq_true rfl, Nat.le_of_ble_eq_true rfl⟩) hS (fun _ h => h) (fun r1 M H locs hp hM hS hz _ => ?_)
  obtain ⟨rfl, hme⟩ := hp
  rw [hme] at hM
  refine lv_if_eq (tgt := 26) hx hb dX6_disk_5 (by decide) (fun c_2 => ?_) (fun c_2 => ?_)
  · skip
    refine lv_iconst (v := (-1)) hx hb dX6_disk_26 (by decide) ?_
    exact mm_iret hx hb hr hlk hM hS (dk_no c_2) dX6_disk_27
  · skip
    obtain ⟨j, n, hj, hn, e1, e2⟩ := ib_1 c_2
    refine lv_aload_n hx hb dX6_disk_8 rfl (lv_at hl 0 rfl) ?_
    refine mm_get (v := .ref dk) (ci := 6) (C := RX6) (T := TX6) (N := 34) hx hb hts (in_X6_disk_X6) hown hK hM h_mo rfl 0 (by decide) (hts (.fieldLink RX6 7 "GroupLogModel" "disk" "[B") (List.mem_of_getElem? (i := 1) rfl)) rfl dX6_disk_9 ?_
    refine lv_bipush (v := 64) hx hb dX6_disk_12 (by decide) ?_
    refine lv_iload_n hx hb dX6_disk_14 rfl (lv_at hl 1 rfl) ?_
    refine lv_imul hx hb dX6_disk_15 ?_
    refine lv_iload_n hx hb dX6_disk_16 rfl (lv_at hl 2 rfl) ?_
    refine lv_iadd hx hb dX6_disk_17 ?_
    refine lv_topi (fun z3 ez3 => ?_)
    have ez3 : z3 = (nI (64 * j + n)) := ez3.trans (by rw [e1, e2, show (64 : Int32) = nI 64 from rfl, pk_mul, nI_add])
    subst ez3
    refine mm_bald hx hb hK hM 2 h_dk rfl (j := 64 * j + n) (rfl) (by omega) (by decide) dX6_disk_18 ?_
    refine lv_sipush (v := 255) hx hb dX6_disk_19 (by decide) ?_
    refine lv_iand hx hb dX6_disk_22 ?_
    refine lv_goto (tgt := 27) hx hb dX6_disk_23 (by decide) ?_
    exact mm_iret hx hb hr hlk hM hS (by rw [← dk_yes c_2 hj hn e1 e2]; exact md_eq hn) dX6_disk_27

theorem in_X6_torn_X6 : ∀ w ∈ u_ws RX6 TX6 34, w ∈ wsX6_torn := fun w h => List.mem_cons_of_mem _ (List.mem_append_right _ h)
set_option maxHeartbeats 4000000 in
set_option maxRecDepth 100000 in
theorem c_X6_torn {l : Launch} {D : va_G} {A : Nat → Prop} {cI cS cB cZ : ClassId} {M : Nat → Option va_E} {sz : Nat} {mo dk it tq qq qg r1 r2 r3 sc hd : Nat} {k : Int32} (h_mo : M mo = some (Sum.inr (6, [.ref dk, .ref it, .int 1, .int (-1), .int 0, .int 10, .int 0, .int 0, .ref tq, .int 0, .ref qq, .int 0, .ref qg, .int 0, .int 0, .int 0, .int 1, .int 1, .int 1, .int 2, .int 2, .int 1, .int 0, .ref r1, .ref r2, .ref r3, .ref sc, .int 0, .ref hd, .int 0, .int 0, .int 0, .int 0, .int 0]) : va_E)) (h_it : M it = some (Sum.inl (cZ, 64, .inl (fun _ => 0)) : va_E)) : Met l yX6_torn wsX6_torn ({ frames := 0, cells := 0, slots := 0, locals := 0 }) (mm_Pc D A (mm_T cI cS cB cZ) M sz [.ref mo, .int k]) (mm_Qi D A (fun r M1 => r = 0)) 0 0 A := by
  refine mm_met (cc := cX6_torn) (maxL := 2) (ret := (some .boolean)) (by decide) rfl (Nat.le_of_ble_eq_true rfl) ?_
  intro p e s m args below meth c hx hb hr hts hown hlk hin hml hsz hK hM hS ls hl
  subst hsz
  have hl : lv_has ls 2 [(0, .ref mo), (1, .int k)] := hl
  refine lv_iload_n hx hb dX6_torn_0 rfl (lv_at hl 1 rfl) ?_
  refine lv_if_lt (tgt := 23) hx hb dX6_torn_1 (by decide) (fun c_1 => ?_) (fun c_1 => ?_)
  · skip
    refine lv_iconst (v := 0) hx hb dX6_torn_23 (by decide) ?_
    exact mm_zret hx hb hr hlk (rfl) hM hS (rfl) dX6_torn_24
  · skip
    refine lv_iload_n hx hb dX6_torn_4 rfl (lv_at hl 1 rfl) ?_
    refine lv_bipush (v := 64) hx hb dX6_torn_5 (by decide) ?_
    refine lv_icmp_ge (tgt := 23) hx hb dX6_torn_7 (by decide) (fun c_2 => ?_) (fun c_2 => ?_)
    · skip
      refine lv_iconst (v := 0) hx hb dX6_torn_23 (by decide) ?_
      exact mm_zret hx hb hr hlk (rfl) hM hS (rfl) dX6_torn_24
    · skip
      obtain ⟨j, hj, e1⟩ := ib_in c_1 c_2
      refine lv_aload_n hx hb dX6_torn_10 rfl (lv_at hl 0 rfl) ?_
      refine mm_get (v := .ref it) (ci := 6) (C := RX6) (T := TX6) (N := 34) hx hb hts (in_X6_torn_X6) hown hK hM h_mo rfl 1 (by decide) (hts (.fieldLink RX6 13 "GroupLogModel" "isTorn" "[Z") (List.mem_of_getElem? (i := 1) rfl)) rfl dX6_torn_11 ?_
      refine lv_iload_n hx hb dX6_torn_14 rfl (lv_at hl 1 rfl) ?_
      refine mm_zald hx hb hK hM 3 h_it rfl (j := j) (e1) (hj) (by decide) dX6_torn_15 ?_
      refine lv_if_eq (tgt := 23) hx hb dX6_torn_16 (by decide) (fun c_3 => ?_) (fun c_3 => ?_)
      rotate_left
      · exact absurd c_3 (by decide)
      refine lv_iconst (v := 0) hx hb dX6_torn_23 (by decide) ?_
      exact mm_zret hx hb hr hlk (rfl) hM hS (rfl) dX6_torn_24

theorem in_X6_count_X6 : ∀ w ∈ u_ws RX6 TX6 34, w ∈ wsX6_count := fun w h => List.mem_cons_of_mem _ (List.mem_append_right _ h)
set_option maxHeartbeats 4000000 in
set_option maxRecDepth 100000 in
theorem c_X6_count {l : Launch} {D : va_G} {A : Nat → Prop} {cI cS cB cZ : ClassId} {M : Nat → Option va_E} {sz : Nat} {mo dk it tq qq qg r1 r2 r3 sc hd : Nat} {k : Int32} (h_mo : M mo = some (Sum.inr (6, [.ref dk, .ref it, .int 1, .int (-1), .int 0, .int 10, .int 0, .int 0, .ref tq, .int 0, .ref qq, .int 0, .ref qg, .int 0, .int 0, .int 0, .int 1, .int 1, .int 1, .int 2, .int 2, .int 1, .int 0, .ref r1, .ref r2, .ref r3, .ref sc, .int 0, .ref hd, .int 0, .int 0, .int 0, .int 0, .int 0]) : va_E)) : Met l yX6_count wsX6_count ({ frames := 1, cells := 0, slots := 0, locals := 20 }) (mm_Pc D A (mm_T cI cS cB cZ) M sz [.ref mo, .int k]) (mm_Qi D A (fun r M1 => r = ct_f k)) 0 0 A := by
  refine mm_met (cc := cX6_count) (maxL := 2) (ret := (some .int)) (by decide) rfl (Nat.le_of_ble_eq_true rfl) ?_
  intro p e s m args below meth c hx hb hr hts hown hlk hin hml hsz hK hM hS ls hl
  subst hsz
  have hl : lv_has ls 2 [(0, .ref mo), (1, .int k)] := hl
  rcases ct_cases k with rfl | rfl | rfl | rfl | rfl | rfl | rfl | rfl | rfl | rfl | hk
  · skip
    have hl : lv_has ls 2 [(0, .ref mo), (1, .int 0)] := hl
    refine lv_iload_n hx hb dX6_count_0 rfl (lv_at hl 1 rfl) ?_
    refine lv_tableIn (off := 55) (tgt := 56) hx hb dX6_count_1 (by decide) (by decide) (by decide) (by decide) ?_
    refine lv_aload_n hx hb dX6_count_56 rfl (lv_at hl 0 rfl) ?_
    refine mm_get (v := .int 1) (ci := 6) (C := RX6) (T := TX6) (N := 34) hx hb hts (in_X6_count_X6) hown hK hM h_mo rfl 2 (by decide) (hts (.fieldLink RX6 17 "GroupLogModel" "isOn" "Z") (List.mem_of_getElem? (i := 1) rfl)) rfl dX6_count_57 ?_
    refine lv_if_eq (tgt := 67) hx hb dX6_count_60 (by decide) (fun c_1 => ?_) (fun c_1 => ?_)
    · exact absurd c_1 (by decide)
    refine lv_iconst (v := 1) hx hb dX6_count_63 (by decide) ?_
    refine lv_goto (tgt := 68) hx hb dX6_count_64 (by decide) ?_
    exact mm_iret hx hb hr hlk hM hS (by decide) dX6_count_68
  · skip
    have hl : lv_has ls 2 [(0, .ref mo), (1, .int 1)] := hl
    refine lv_iload_n hx hb dX6_count_0 rfl (lv_at hl 1 rfl) ?_
    refine lv_tableIn (off := 68) (tgt := 69) hx hb dX6_count_1 (by decide) (by decide) (by decide) (by decide) ?_
    refine lv_aload_n hx hb dX6_count_69 rfl (lv_at hl 0 rfl) ?_
    refine mm_get (v := .int 1) (ci := 6) (C := RX6) (T := TX6) (N := 34) hx hb hts (in_X6_count_X6) hown hK hM h_mo rfl 2 (by decide) (hts (.fieldLink RX6 17 "GroupLogModel" "isOn" "Z") (List.mem_of_getElem? (i := 1) rfl)) rfl dX6_count_70 ?_
    refine lv_if_eq (tgt := 83) hx hb dX6_count_73 (by decide) (fun c_2 => ?_) (fun c_2 => ?_)
    · exact absurd c_2 (by decide)
    refine lv_aload_n hx hb dX6_count_76 rfl (lv_at hl 0 rfl) ?_
    refine mm_get (v := .int 0) (ci := 6) (C := RX6) (T := TX6) (N := 34) hx hb hts (in_X6_count_X6) hown hK hM h_mo rfl 13 (by decide) (hts (.fieldLink RX6 102 "GroupLogModel" "queued" "I") (List.mem_of_getElem? (i := 2) rfl)) rfl dX6_count_77 ?_
    refine lv_goto (tgt := 85) hx hb dX6_count_80 (by decide) ?_
    exact mm_iret hx hb hr hlk hM hS (by decide) dX6_count_85
  · skip
    have hl : lv_has ls 2 [(0, .ref mo), (1, .int 2)] := hl
    refine lv_iload_n hx hb dX6_count_0 rfl (lv_at hl 1 rfl) ?_
    refine lv_tableIn (off := 85) (tgt := 86) hx hb dX6_count_1 (by decide) (by decide) (by decide) (by decide) ?_
    refine lv_aload_n hx hb dX6_count_86 rfl (lv_at hl 0 rfl) ?_
    refine mm_get (v := .int 1) (ci := 6) (C := RX6) (T := TX6) (N := 34) hx hb hts (in_X6_count_X6) hown hK hM h_mo rfl 2 (by decide) (hts (.fieldLink RX6 17 "GroupLogModel" "isOn" "Z") (List.mem_of_getElem? (i := 1) rfl)) rfl dX6_count_87 ?_
    refine lv_if_eq (tgt := 100) hx hb dX6_count_90 (by decide) (fun c_3 => ?_) (fun c_3 => ?_)
    · exact absurd c_3 (by decide)
    refine lv_aload_n hx hb dX6_count_93 rfl (lv_at hl 0 rfl) ?_
    refine mm_get (v := .int 0) (ci := 6) (C := RX6) (T := TX6) (N := 34) hx hb hts (in_X6_count_X6) hown hK hM h_mo rfl 11 (by decide) (hts (.fieldLink RX6 99 "GroupLogModel" "queueSize" "I") (List.mem_of_getElem? (i := 3) rfl)) rfl dX6_count_94 ?_
    refine lv_goto (tgt := 102) hx hb dX6_count_97 (by decide) ?_
    exact mm_iret hx hb hr hlk hM hS (by decide) dX6_count_102
  · skip
    have hl : lv_has ls 2 [(0, .ref mo), (1, .int 3)] := hl
    refine lv_iload_n hx hb dX6_count_0 rfl (lv_at hl 1 rfl) ?_
    refine lv_tableIn (off := 102) (tgt := 103) hx hb dX6_count_1 (by decide) (by decide) (by decide) (by decide) ?_
    refine lv_aload_n hx hb dX6_count_103 rfl (lv_at hl 0 rfl) ?_
    refine mm_get (v := .int 1) (ci := 6) (C := RX6) (T := TX6) (N := 34) hx hb hts (in_X6_count_X6) hown hK hM h_mo rfl 2 (by decide) (hts (.fieldLink RX6 17 "GroupLogModel" "isOn" "Z") (List.mem_of_getElem? (i := 1) rfl)) rfl dX6_count_104 ?_
    refine lv_if_eq (tgt := 117) hx hb dX6_count_107 (by decide) (fun c_4 => ?_) (fun c_4 => ?_)
    · exact absurd c_4 (by decide)
    refine lv_aload_n hx hb dX6_count_110 rfl (lv_at hl 0 rfl) ?_
    refine mm_calli (mm_runV (As := []) (rest := []) ⟨hx, hb, hml, hown, hts⟩ (c_X6_used h_mo) (cwV 0 hts gX6_count_X6_used rfl rfl rfl (by decide +kernel) ⟨Nat.le_of_ble_eq_true rfl, Nat.le_of_ble_eq_true rfl⟩) hK hM h_mo rfl rfl hl.1 rfl (Nat.le_of_ble_eq_true rfl) dX6_count_111 ⟨Nat.le_of_ble_eq_true rfl, Nat.le_of_ble_eq_true rfl⟩) hS (fun _ h => h) (fun r5 M H locs hp hM hS hz _ => ?_)
    obtain ⟨rfl, hme⟩ := hp
    rw [hme] at hM
    refine lv_goto (tgt := 119) hx hb dX6_count_114 (by decide) ?_
    exact mm_iret hx hb hr hlk hM hS (by decide) dX6_count_119
  · skip
    have hl : lv_has ls 2 [(0, .ref mo), (1, .int 4)] := hl
    refine lv_iload_n hx hb dX6_count_0 rfl (lv_at hl 1 rfl) ?_
    refine lv_tableIn (off := 119) (tgt := 120) hx hb dX6_count_1 (by decide) (by decide) (by decide) (by decide) ?_
    refine lv_aload_n hx hb dX6_count_120 rfl (lv_at hl 0 rfl) ?_
    refine mm_get (v := .int 1) (ci := 6) (C := RX6) (T := TX6) (N := 34) hx hb hts (in_X6_count_X6) hown hK hM h_mo rfl 2 (by decide) (hts (.fieldLink RX6 17 "GroupLogModel" "isOn" "Z") (List.mem_of_getElem? (i := 1) rfl)) rfl dX6_count_121 ?_
    refine lv_if_eq (tgt := 134) hx hb dX6_count_124 (by decide) (fun c_6 => ?_) (fun c_6 => ?_)
    · exact absurd c_6 (by decide)
    refine lv_aload_n hx hb dX6_count_127 rfl (lv_at hl 0 rfl) ?_
    refine mm_get (v := .int 2) (ci := 6) (C := RX6) (T := TX6) (N := 34) hx hb hts (in_X6_count_X6) hown hK hM h_mo rfl 20 (by decide) (hts (.fieldLink RX6 50 "GroupLogModel" "nextSector" "I") (List.mem_of_getElem? (i := 4) rfl)) rfl dX6_count_128 ?_
    refine lv_goto (tgt := 136) hx hb dX6_count_131 (by decide) ?_
    exact mm_iret hx hb hr hlk hM hS (by decide) dX6_count_136
  · skip
    have hl : lv_has ls 2 [(0, .ref mo), (1, .int 5)] := hl
    refine lv_iload_n hx hb dX6_count_0 rfl (lv_at hl 1 rfl) ?_
    refine lv_tableIn (off := 136) (tgt := 137) hx hb dX6_count_1 (by decide) (by decide) (by decide) (by decide) ?_
    refine lv_aload_n hx hb dX6_count_137 rfl (lv_at hl 0 rfl) ?_
    refine mm_get (v := .int 1) (ci := 6) (C := RX6) (T := TX6) (N := 34) hx hb hts (in_X6_count_X6) hown hK hM h_mo rfl 2 (by decide) (hts (.fieldLink RX6 17 "GroupLogModel" "isOn" "Z") (List.mem_of_getElem? (i := 1) rfl)) rfl dX6_count_138 ?_
    refine lv_if_eq (tgt := 151) hx hb dX6_count_141 (by decide) (fun c_7 => ?_) (fun c_7 => ?_)
    · exact absurd c_7 (by decide)
    refine lv_aload_n hx hb dX6_count_144 rfl (lv_at hl 0 rfl) ?_
    refine mm_get (v := .int 1) (ci := 6) (C := RX6) (T := TX6) (N := 34) hx hb hts (in_X6_count_X6) hown hK hM h_mo rfl 21 (by decide) (hts (.fieldLink RX6 53 "GroupLogModel" "nextSerial" "I") (List.mem_of_getElem? (i := 5) rfl)) rfl dX6_count_145 ?_
    refine lv_goto (tgt := 153) hx hb dX6_count_148 (by decide) ?_
    exact mm_iret hx hb hr hlk hM hS (by decide) dX6_count_153
  · skip
    have hl : lv_has ls 2 [(0, .ref mo), (1, .int 6)] := hl
    refine lv_iload_n hx hb dX6_count_0 rfl (lv_at hl 1 rfl) ?_
    refine lv_tableIn (off := 153) (tgt := 154) hx hb dX6_count_1 (by decide) (by decide) (by decide) (by decide) ?_
    refine lv_aload_n hx hb dX6_count_154 rfl (lv_at hl 0 rfl) ?_
    refine mm_get (v := .int 0) (ci := 6) (C := RX6) (T := TX6) (N := 34) hx hb hts (in_X6_count_X6) hown hK hM h_mo rfl 6 (by decide) (hts (.fieldLink RX6 96 "GroupLogModel" "steps" "I") (List.mem_of_getElem? (i := 6) rfl)) rfl dX6_count_155 ?_
    exact mm_iret hx hb hr hlk hM hS (by decide) dX6_count_158
  · skip
    have hl : lv_has ls 2 [(0, .ref mo), (1, .int 7)] := hl
    refine lv_iload_n hx hb dX6_count_0 rfl (lv_at hl 1 rfl) ?_
    refine lv_tableIn (off := 158) (tgt := 159) hx hb dX6_count_1 (by decide) (by decide) (by decide) (by decide) ?_
    refine lv_aload_n hx hb dX6_count_159 rfl (lv_at hl 0 rfl) ?_
    refine mm_get (v := .int 0) (ci := 6) (C := RX6) (T := TX6) (N := 34) hx hb hts (in_X6_count_X6) hown hK hM h_mo rfl 7 (by decide) (hts (.fieldLink RX6 132 "GroupLogModel" "flushes" "I") (List.mem_of_getElem? (i := 7) rfl)) rfl dX6_count_160 ?_
    exact mm_iret hx hb hr hlk hM hS (by decide) dX6_count_163
  · skip
    have hl : lv_has ls 2 [(0, .ref mo), (1, .int 8)] := hl
    refine lv_iload_n hx hb dX6_count_0 rfl (lv_at hl 1 rfl) ?_
    refine lv_tableIn (off := 163) (tgt := 164) hx hb dX6_count_1 (by decide) (by decide) (by decide) (by decide) ?_
    refine lv_aload_n hx hb dX6_count_164 rfl (lv_at hl 0 rfl) ?_
    refine mm_get (v := .int 1) (ci := 6) (C := RX6) (T := TX6) (N := 34) hx hb hts (in_X6_count_X6) hown hK hM h_mo rfl 2 (by decide) (hts (.fieldLink RX6 17 "GroupLogModel" "isOn" "Z") (List.mem_of_getElem? (i := 1) rfl)) rfl dX6_count_165 ?_
    refine lv_if_ne (tgt := 176) hx hb dX6_count_168 (by decide) (fun c_8 => ?_) (fun c_8 => ?_)
    rotate_left
    · exact absurd c_8 (by decide)
    refine lv_aload_n hx hb dX6_count_176 rfl (lv_at hl 0 rfl) ?_
    refine mm_get (v := .int 0) (ci := 6) (C := RX6) (T := TX6) (N := 34) hx hb hts (in_X6_count_X6) hown hK hM h_mo rfl 13 (by decide) (hts (.fieldLink RX6 102 "GroupLogModel" "queued" "I") (List.mem_of_getElem? (i := 2) rfl)) rfl dX6_count_177 ?_
    refine lv_if_ne (tgt := 187) hx hb dX6_count_180 (by decide) (fun c_9 => ?_) (fun c_9 => ?_)
    · exact absurd c_9 (by decide)
    refine lv_iconst (v := (-1)) hx hb dX6_count_183 (by decide) ?_
    refine lv_goto (tgt := 191) hx hb dX6_count_184 (by decide) ?_
    exact mm_iret hx hb hr hlk hM hS (by decide) dX6_count_191
  · skip
    have hl : lv_has ls 2 [(0, .ref mo), (1, .int 9)] := hl
    refine lv_iload_n hx hb dX6_count_0 rfl (lv_at hl 1 rfl) ?_
    refine lv_tableIn (off := 191) (tgt := 192) hx hb dX6_count_1 (by decide) (by decide) (by decide) (by decide) ?_
    refine lv_aload_n hx hb dX6_count_192 rfl (lv_at hl 0 rfl) ?_
    refine mm_get (v := .int 1) (ci := 6) (C := RX6) (T := TX6) (N := 34) hx hb hts (in_X6_count_X6) hown hK hM h_mo rfl 2 (by decide) (hts (.fieldLink RX6 17 "GroupLogModel" "isOn" "Z") (List.mem_of_getElem? (i := 1) rfl)) rfl dX6_count_193 ?_
    refine lv_if_eq (tgt := 206) hx hb dX6_count_196 (by decide) (fun c_10 => ?_) (fun c_10 => ?_)
    · exact absurd c_10 (by decide)
    refine lv_aload_n hx hb dX6_count_199 rfl (lv_at hl 0 rfl) ?_
    refine mm_get (v := .int 1) (ci := 6) (C := RX6) (T := TX6) (N := 34) hx hb hts (in_X6_count_X6) hown hK hM h_mo rfl 16 (by decide) (hts (.fieldLink RX6 38 "GroupLogModel" "version" "I") (List.mem_of_getElem? (i := 9) rfl)) rfl dX6_count_200 ?_
    refine lv_goto (tgt := 208) hx hb dX6_count_203 (by decide) ?_
    exact mm_iret hx hb hr hlk hM hS (by decide) dX6_count_208
  · skip
    refine lv_iload_n hx hb dX6_count_0 rfl (lv_at hl 1 rfl) ?_
    refine lv_tableOut (tgt := 209) hx hb dX6_count_1 (ct_int hk) (by decide) ?_
    refine lv_iconst (v := (-1)) hx hb dX6_count_209 (by decide) ?_
    exact mm_iret hx hb hr hlk hM hS (ct_out hk) dX6_count_210

theorem in_X6_tick_X6 : ∀ w ∈ u_ws RX6 TX6 34, w ∈ wsX6_tick := fun w h => List.mem_cons_of_mem _ (List.mem_append_right _ h)
set_option maxHeartbeats 4000000 in
set_option maxRecDepth 100000 in
theorem lp_X6_tick {p : Program} {l : Launch} {e : Env} {s : State} {m : MethodId} {args : Array Value} {below : List Frame} {meth : Method} {c : Code} {Q : State → Prop} {D : va_G} {A : Nat → Prop} {cI cS cB cZ : ClassId} {cells slots : Nat} {R : Room} (hx : p.tables.exec = Jvm.exec) (hb : c.code = cX6_tick) (hts : ∀ w ∈ wsX6_tick, w.before args s = true) (hown : s.vm.findClass RX6 = some m.cls) (hml : c.maxLocals = 4) (hK : mm_K D (mm_T cI cS cB cZ) s) {m0 dk it tq qq qg r1 r2 r3 sc hd T : Nat} (hT : T < 2 ^ 31) {H : Heap} {locs : List Loc} {M : Nat → Option va_E} (hM : mm_W D A M H) (h_m0 : M m0 = some (Sum.inr (6, [.ref dk, .ref it, .int 1, .int (-1), .int 0, .int 10, .int 0, .int 0, .ref tq, .int 0, .ref qq, .int 0, .ref qg, .int 0, .int 0, .int 0, .int 1, .int 1, .int 1, .int 2, .int 2, .int 1, .int 0, .ref r1, .ref r2, .ref r3, .ref sc, .int 0, .ref hd, .int 0, .int 0, .int 0, .int 0, .int 0]) : va_E)) :
    ∀ (n i : Nat), i + n = T → ∀ ls : Array Slot, lv_has ls 4 [(0, .ref m0), (1, .int (nI T)), (2, .int 0), (3, .int (nI i))] → (∀ ls1 : Array Slot, lv_has ls1 4 [(2, .int 0)] → W p l e R s m args below meth c H locs cells slots Q (F0 m 94 ls1 [])) → W p l e R s m args below meth c H locs cells slots Q (F0 m 40 ls []) := by
  intro n
  induction n with
  | zero =>
    intro i hi ls hl kx
    obtain rfl : i = T := by omega
    refine lv_iload_n hx hb dX6_tick_40 rfl (lv_at hl 3 rfl) ?_
    refine lv_iload_n hx hb dX6_tick_41 rfl (lv_at hl 1 rfl) ?_
    refine lv_icmp_ge (tgt := 94) hx hb dX6_tick_42 (by decide) (fun c_1 => ?_) (fun c_1 => ?_)
    rotate_left
    · exact absurd c_1 (fun h => h (nI_le (Nat.le_refl _) (by omega)))
    exact kx ls (lv_sub hl [2] rfl)
  | succ n ih =>
    intro i hi ls hl kx
    refine lv_iload_n hx hb dX6_tick_40 rfl (lv_at hl 3 rfl) ?_
    refine lv_iload_n hx hb dX6_tick_41 rfl (lv_at hl 1 rfl) ?_
    refine lv_icmp_ge (tgt := 94) hx hb dX6_tick_42 (by decide) (fun c_2 => ?_) (fun c_2 => ?_)
    · exact absurd c_2 (nI_ge (by omega) (by omega))
    refine lv_aload_n hx hb dX6_tick_45 rfl (lv_at hl 0 rfl) ?_
    refine mm_get (v := .int 1) (ci := 6) (C := RX6) (T := TX6) (N := 34) hx hb hts (in_X6_tick_X6) hown hK hM h_m0 rfl 2 (by decide) (hts (.fieldLink RX6 17 "GroupLogModel" "isOn" "Z") (List.mem_of_getElem? (i := 1) rfl)) rfl dX6_tick_46 ?_
    refine lv_if_eq (tgt := 94) hx hb dX6_tick_49 (by decide) (fun c_3 => ?_) (fun c_3 => ?_)
    · exact absurd c_3 (by decide)
    refine lv_aload_n hx hb dX6_tick_52 rfl (lv_at hl 0 rfl) ?_
    refine mm_get (v := .int 0) (ci := 6) (C := RX6) (T := TX6) (N := 34) hx hb hts (in_X6_tick_X6) hown hK hM h_m0 rfl 13 (by decide) (hts (.fieldLink RX6 102 "GroupLogModel" "queued" "I") (List.mem_of_getElem? (i := 2) rfl)) rfl dX6_tick_53 ?_
    refine lv_if_le (tgt := 88) hx hb dX6_tick_56 (by decide) (fun c_4 => ?_) (fun c_4 => ?_)
    rotate_left
    · exact absurd c_4 (by decide)
    refine lv_iinc (v := (nI (i + 1))) (lv' := [(3, .int (nI (i + 1))), (0, .ref m0), (1, .int (nI T)), (2, .int 0)]) hx hb dX6_tick_88 hl (k := 3) rfl (by show _ + (1 : Int32) = _; exact nI_1 i) (by decide) rfl (fun ls hl => ?_)
    refine lv_goto (tgt := 40) hx hb dX6_tick_91 (by decide) ?_
    exact ih (i + 1) (by omega) ls (lv_sub hl [1, 2, 3, 0] rfl) kx

theorem tc_no {k : Int32} (h : tk_f k = 0) : (-1) = tc_f k := by unfold tc_f; rw [if_pos h]
theorem tc_yes {k : Int32} (h1 : ¬ k < 1) (h2 : k ≤ 1000) : 0 = tc_f k := by
  unfold tc_f tk_f
  rw [if_neg h1, if_neg (tk_le.mp h2)]
  decide
theorem tc_in {k : Int32} (h1 : ¬ k < 1) : ∃ T : Nat, T < 2 ^ 31 ∧ k = nI T := by
  refine nI_of (fun h => h1 ?_)
  rw [Int32.lt_iff_toInt_lt] at h ⊢
  have e1 : (1 : Int32).toInt = 1 := by decide
  have e0 : (0 : Int32).toInt = 0 := by decide
  omega

set_option maxHeartbeats 4000000 in
set_option maxRecDepth 100000 in
theorem c_X6_tick {l : Launch} {D : va_G} {A : Nat → Prop} {cI cS cB cZ : ClassId} {M : Nat → Option va_E} {sz : Nat} {mo dk it tq qq qg r1 r2 r3 sc hd : Nat} {k : Int32} (h_mo : M mo = some (Sum.inr (6, [.ref dk, .ref it, .int 1, .int (-1), .int 0, .int 10, .int 0, .int 0, .ref tq, .int 0, .ref qq, .int 0, .ref qg, .int 0, .int 0, .int 0, .int 1, .int 1, .int 1, .int 2, .int 2, .int 1, .int 0, .ref r1, .ref r2, .ref r3, .ref sc, .int 0, .ref hd, .int 0, .int 0, .int 0, .int 0, .int 0]) : va_E)) : Met l yX6_tick wsX6_tick ({ frames := 0, cells := 0, slots := 0, locals := 0 }) (mm_Pc D A (mm_T cI cS cB cZ) M sz [.ref mo, .int k]) (mm_Qi D A (fun r M1 => r = tc_f k)) 0 0 A := by
  refine mm_met (cc := cX6_tick) (maxL := 4) (ret := (some .int)) (by decide) rfl (Nat.le_of_ble_eq_true rfl) ?_
  intro p e s m args below meth c hx hb hr hts hown hlk hin hml hsz hK hM hS ls hl
  subst hsz
  have hl : lv_has ls 4 [(0, .ref mo), (1, .int k)] := hl
  refine lv_iload_n hx hb dX6_tick_0 rfl (lv_at hl 1 rfl) ?_
  refine lv_iconst (v := 1) hx hb dX6_tick_1 (by decide) ?_
  refine lv_icmp_lt (tgt := 12) hx hb dX6_tick_2 (by decide) (fun c_1 => ?_) (fun c_1 => ?_)
  · skip
    refine lv_aload_n hx hb dX6_tick_12 rfl (lv_at hl 0 rfl) ?_
    refine mm_get (v := .int 1) (ci := 6) (C := RX6) (T := TX6) (N := 34) hx hb hts (in_X6_tick_X6) hown hK hM h_mo rfl 2 (by decide) (hts (.fieldLink RX6 17 "GroupLogModel" "isOn" "Z") (List.mem_of_getElem? (i := 1) rfl)) rfl dX6_tick_13 ?_
    refine lv_if_eq (tgt := 23) hx hb dX6_tick_16 (by decide) (fun c_2 => ?_) (fun c_2 => ?_)
    · exact absurd c_2 (by decide)
    refine lv_iconst (v := (-1)) hx hb dX6_tick_19 (by decide) ?_
    refine lv_goto (tgt := 25) hx hb dX6_tick_20 (by decide) ?_
    exact mm_iret hx hb hr hlk hM hS (tc_no (by unfold tk_f; rw [if_pos c_1])) dX6_tick_25
  · skip
    refine lv_iload_n hx hb dX6_tick_5 rfl (lv_at hl 1 rfl) ?_
    refine lv_sipush (v := 1000) hx hb dX6_tick_6 (by decide) ?_
    refine lv_icmp_le (tgt := 26) hx hb dX6_tick_9 (by decide) (fun c_3 => ?_) (fun c_3 => ?_)
    · skip
      have hans := tc_yes c_1 c_3
      obtain ⟨T, hT, eT⟩ := tc_in c_1
      rw [eT] at hl
      have hl : lv_has ls 4 [(0, .ref mo), (1, .int (nI T))] := hl
      refine lv_aload_n hx hb dX6_tick_26 rfl (lv_at hl 0 rfl) ?_
      refine mm_get (v := .int 1) (ci := 6) (C := RX6) (T := TX6) (N := 34) hx hb hts (in_X6_tick_X6) hown hK hM h_mo rfl 2 (by decide) (hts (.fieldLink RX6 17 "GroupLogModel" "isOn" "Z") (List.mem_of_getElem? (i := 1) rfl)) rfl dX6_tick_27 ?_
      refine lv_if_ne (tgt := 36) hx hb dX6_tick_30 (by decide) (fun c_4 => ?_) (fun c_4 => ?_)
      rotate_left
      · exact absurd c_4 (by decide)
      refine lv_iconst (v := 0) hx hb dX6_tick_36 (by decide) ?_
      refine lv_istore_n (lv' := [(2, .int 0), (0, .ref mo), (1, .int (nI T))]) hx hb dX6_tick_37 rfl hl (by decide) rfl (fun ls hl => ?_)
      refine lv_iconst (v := 0) hx hb dX6_tick_38 (by decide) ?_
      refine lv_istore_n (lv' := [(3, .int 0), (2, .int 0), (0, .ref mo), (1, .int (nI T))]) hx hb dX6_tick_39 rfl hl (by decide) rfl (fun ls hl => ?_)
      refine lp_X6_tick (dk := dk) (it := it) (tq := tq) hx hb hts hown hml hK hT hM h_mo T 0 (by omega) ls (lv_sub hl [2, 3, 1, 0] rfl) (fun ls hl => ?_)
      refine lv_iload_n hx hb dX6_tick_94 rfl (lv_at hl 0 rfl) ?_
      exact mm_iret hx hb hr hlk hM hS (hans) dX6_tick_95
    · skip
      refine lv_aload_n hx hb dX6_tick_12 rfl (lv_at hl 0 rfl) ?_
      refine mm_get (v := .int 1) (ci := 6) (C := RX6) (T := TX6) (N := 34) hx hb hts (in_X6_tick_X6) hown hK hM h_mo rfl 2 (by decide) (hts (.fieldLink RX6 17 "GroupLogModel" "isOn" "Z") (List.mem_of_getElem? (i := 1) rfl)) rfl dX6_tick_13 ?_
      refine lv_if_eq (tgt := 23) hx hb dX6_tick_16 (by decide) (fun c_5 => ?_) (fun c_5 => ?_)
      · exact absurd c_5 (by decide)
      refine lv_iconst (v := (-1)) hx hb dX6_tick_19 (by decide) ?_
      refine lv_goto (tgt := 25) hx hb dX6_tick_20 (by decide) ?_
      exact mm_iret hx hb hr hlk hM hS (tc_no (by unfold tk_f; rw [if_neg c_1, if_pos (tk_gt.mp c_3)])) dX6_tick_25

theorem in_X6_write_X6 : ∀ w ∈ u_ws RX6 TX6 34, w ∈ wsX6_write := fun w h => List.mem_cons_of_mem _ (List.mem_append_right _ h)
set_option maxHeartbeats 4000000 in
set_option maxRecDepth 100000 in
theorem lp_X6_write {p : Program} {l : Launch} {e : Env} {s : State} {m : MethodId} {args : Array Value} {below : List Frame} {meth : Method} {c : Code} {Q : State → Prop} {D : va_G} {A : Nat → Prop} {cI cS cB cZ : ClassId} {cells slots : Nat} {R : Room} (hx : p.tables.exec = Jvm.exec) (hb : c.code = cX6_write) (hts : ∀ w ∈ wsX6_write, w.before args s = true) (hown : s.vm.findClass RX6 = some m.cls) (hml : c.maxLocals = 4) (hK : mm_K D (mm_T cI cS cB cZ) s) {m0 dk it tq qq qg r1 r2 r3 sc hd : Nat} {fs : Nat → Int32} :
    ∀ (n i : Nat), i + n = 64 → ∀ (M : Nat → Option va_E) (H : Heap) (locs : List Loc) (f : Nat → Int32), mm_W D A M H → va_S A s.heap H locs → M m0 = some (Sum.inr (6, [.ref dk, .ref it, .int 1, .int (-1), .int 0, .int 10, .int 0, .int 0, .ref tq, .int 0, .ref qq, .int 0, .ref qg, .int 0, .int 0, .int 0, .int 2, .int 1, .int 1, .int 2, .int 2, .int 1, .int 0, .ref r1, .ref r2, .ref r3, .ref sc, .int 0, .ref hd, .int 0, .int 0, .int 0, .int 0, .int 0]) : va_E) → M dk = some (Sum.inl (cB, 4096, .inl (f)) : va_E) → M sc = some (Sum.inl (cB, 64, .inl (fs)) : va_E) → (∀ (M1 : Nat → Option va_E) (H1 : Heap) (locs1 : List Loc) (ls1 : Array Slot), mm_W D A M1 H1 → va_S A s.heap H1 locs1 → (∀ q, q ≠ dk → M1 q = M q) → lv_has ls1 4 [(0, .ref m0), (1, .int 1), (2, .int 64), (3, .int (nI 64))] → W p l e R s m args below meth c H1 locs1 cells slots Q (F0 m 45 ls1 [])) → ∀ ls : Array Slot, lv_has ls 4 [(0, .ref m0), (1, .int 1), (2, .int 64), (3, .int (nI i))] → W p l e R s m args below meth c H locs cells slots Q (F0 m 17 ls []) := by
  intro n
  induction n with
  | zero =>
    intro i hi M H locs f hM hS h_m0 h_dk h_sc kx ls hl
    obtain rfl : i = 64 := by omega
    refine lv_iload_n hx hb dX6_write_17 rfl (lv_at hl 3 rfl) ?_
    refine lv_iload_n hx hb dX6_write_18 rfl (lv_at hl 2 rfl) ?_
    refine lv_icmp_ge (tgt := 45) hx hb dX6_write_19 (by decide) (fun c_1 => ?_) (fun c_1 => ?_)
    rotate_left
    · exact absurd c_1 (fun h => h (by decide))
    exact kx M H locs ls hM hS (fun q _ => rfl) hl
  | succ n ih =>
    intro i hi M H locs f hM hS h_m0 h_dk h_sc kx ls hl
    refine lv_iload_n hx hb dX6_write_17 rfl (lv_at hl 3 rfl) ?_
    refine lv_iload_n hx hb dX6_write_18 rfl (lv_at hl 2 rfl) ?_
    refine lv_icmp_ge (tgt := 45) hx hb dX6_write_19 (by decide) (fun c_2 => ?_) (fun c_2 => ?_)
    · exact absurd c_2 (nI_ge (b := 64) (by omega) (by decide))
    refine lv_aload_n hx hb dX6_write_22 rfl (lv_at hl 0 rfl) ?_
    refine mm_get (v := .ref dk) (ci := 6) (C := RX6) (T := TX6) (N := 34) hx hb hts (in_X6_write_X6) hown hK hM h_m0 rfl 0 (by decide) (hts (.fieldLink RX6 7 "GroupLogModel" "disk" "[B") (List.mem_of_getElem? (i := 3) rfl)) rfl dX6_write_23 ?_
    refine lv_bipush (v := 64) hx hb dX6_write_26 (by decide) ?_
    refine lv_iload_n hx hb dX6_write_28 rfl (lv_at hl 1 rfl) ?_
    refine lv_imul hx hb dX6_write_29 ?_
    refine lv_topi (fun z3 ez3 => ?_)
    have ez3 : z3 = 64 := ez3.trans (by decide)
    subst ez3
    refine lv_iload_n hx hb dX6_write_30 rfl (lv_at hl 3 rfl) ?_
    refine lv_iadd hx hb dX6_write_31 ?_
    refine lv_topi (fun z4 ez4 => ?_)
    have ez4 : z4 = (nI (64 + i)) := ez4.trans (by rw [show (64 : Int32) = nI 64 from rfl, nI_add])
    subst ez4
    refine lv_aload_n hx hb dX6_write_32 rfl (lv_at hl 0 rfl) ?_
    refine mm_get (v := .ref sc) (ci := 6) (C := RX6) (T := TX6) (N := 34) hx hb hts (in_X6_write_X6) hown hK hM h_m0 rfl 26 (by decide) (hts (.fieldLink RX6 65 "GroupLogModel" "sector" "[B") (List.mem_of_getElem? (i := 4) rfl)) rfl dX6_write_33 ?_
    refine lv_iload_n hx hb dX6_write_36 rfl (lv_at hl 3 rfl) ?_
    refine mm_bald hx hb hK hM 2 h_sc rfl (j := i) (rfl) (by omega) (by decide) dX6_write_37 ?_
    refine mm_bast hx hb hK hM hS 2 h_dk rfl (j := 64 + i) (rfl) (by omega) (by decide) dX6_write_38 (fun H locs M hM ha ho hS => ?_)
    have h_m0 := (ho m0 (mm_ne h_m0 h_dk mm_oa)).trans h_m0
    have h_sc := (ho sc (mm_ne h_sc h_dk (mm_an (by decide)))).trans h_sc
    have h_dk : _ = some (Sum.inl (cB, 4096, .inl (upd (f) (64 + i) ((vp_nar .byte (((fs) (i))))))) : va_E) := ha
    refine lv_iinc (v := (nI (i + 1))) (lv' := [(3, .int (nI (i + 1))), (0, .ref m0), (1, .int 1), (2, .int 64)]) hx hb dX6_write_39 hl (k := 3) rfl (by show _ + (1 : Int32) = _; exact nI_1 i) (by decide) rfl (fun ls hl => ?_)
    refine lv_goto (tgt := 17) hx hb dX6_write_42 (by decide) ?_
    exact ih (i + 1) (by omega) M H locs _ hM hS h_m0 h_dk h_sc (fun M1 H1 locs1 ls1 g1 g2 g5 g6 => kx M1 H1 locs1 ls1 g1 g2 (fun q hq => by rw [g5 q hq, ho q hq]) g6) ls (lv_sub hl [1, 2, 3, 0] rfl)

set_option maxHeartbeats 4000000 in
set_option maxRecDepth 100000 in
theorem c_X6_write {l : Launch} {D : va_G} {A : Nat → Prop} {cI cS cB cZ : ClassId} {M : Nat → Option va_E} {sz : Nat} {mo dk it tq qq qg r1 r2 r3 sc hd : Nat} {fs : Nat → Int32} (h_mo : M mo = some (Sum.inr (6, [.ref dk, .ref it, .int 1, .int (-1), .int 0, .int 10, .int 0, .int 0, .ref tq, .int 0, .ref qq, .int 0, .ref qg, .int 0, .int 0, .int 0, .int 2, .int 1, .int 1, .int 2, .int 2, .int 1, .int 0, .ref r1, .ref r2, .ref r3, .ref sc, .int 0, .ref hd, .int 0, .int 0, .int 0, .int 0, .int 0]) : va_E)) (h_dk : M dk = some (Sum.inl (cB, 4096, .inl (md_F)) : va_E)) (h_it : M it = some (Sum.inl (cZ, 64, .inl (fun _ => 0)) : va_E)) (h_sc : M sc = some (Sum.inl (cB, 64, .inl (fs)) : va_E)) : Met l yX6_write wsX6_write ({ frames := 0, cells := 0, slots := 0, locals := 0 }) (mm_Pc D A (mm_T cI cS cB cZ) M sz [.ref mo, .int 1]) (mm_Qi D A (fun r M1 => r = 1 ∧ M1 mo = some (Sum.inr (6, [.ref dk, .ref it, .int 1, .int (-1), .int 0, .int 10, .int 1, .int 0, .ref tq, .int 0, .ref qq, .int 0, .ref qg, .int 0, .int 0, .int 0, .int 2, .int 1, .int 1, .int 2, .int 2, .int 1, .int 0, .ref r1, .ref r2, .ref r3, .ref sc, .int 0, .ref hd, .int 0, .int 0, .int 0, .int 0, .int 0]) : va_E))) 0 0 A := by
  refine mm_met (cc := cX6_write) (maxL := 4) (ret := (some .boolean)) (by decide) rfl (Nat.le_of_ble_eq_true rfl) ?_
  intro p e s m args below meth c hx hb hr hts hown hlk hin hml hsz hK hM hS ls hl
  subst hsz
  have hl : lv_has ls 4 [(0, .ref mo), (1, .int 1)] := hl
  refine lv_bipush (v := 64) hx hb dX6_write_0 (by decide) ?_
  refine lv_istore_n (lv' := [(2, .int 64), (0, .ref mo), (1, .int 1)]) hx hb dX6_write_2 rfl hl (by decide) rfl (fun ls hl => ?_)
  refine lv_aload_n hx hb dX6_write_3 rfl (lv_at hl 1 rfl) ?_
  refine mm_get (v := .int (-1)) (ci := 6) (C := RX6) (T := TX6) (N := 34) hx hb hts (in_X6_write_X6) hown hK hM h_mo rfl 3 (by decide) (hts (.fieldLink RX6 21 "GroupLogModel" "armed" "I") (List.mem_of_getElem? (i := 1) rfl)) rfl dX6_write_4 ?_
  refine lv_if_ne (tgt := 15) hx hb dX6_write_7 (by decide) (fun c_1 => ?_) (fun c_1 => ?_)
  rotate_left
  · exact absurd c_1 (by decide)
  refine lv_iconst (v := 0) hx hb dX6_write_15 (by decide) ?_
  refine lv_istore_n (lv' := [(3, .int 0), (2, .int 64), (0, .ref mo), (1, .int 1)]) hx hb dX6_write_16 rfl hl (by decide) rfl (fun ls hl => ?_)
  refine lp_X6_write (m0 := mo) (it := it) (tq := tq) (sc := sc) hx hb hts hown hml hK 64 0 rfl _ _ _ _ hM hS h_mo h_dk h_sc (fun M1 H locs ls hM hS ho hl => ?_) ls (lv_sub hl [2, 3, 1, 0] rfl)
  have h_dkO := h_dk
  have h_mo := (ho mo (mm_ne h_mo h_dk mm_oa)).trans h_mo
  have h_it := (ho it (mm_ne h_it h_dk (mm_an (by decide)))).trans h_it
  refine lv_iload_n hx hb dX6_write_45 rfl (lv_at hl 2 rfl) ?_
  refine lv_bipush (v := 64) hx hb dX6_write_46 (by decide) ?_
  refine lv_icmp_ge (tgt := 75) hx hb dX6_write_48 (by decide) (fun c_2 => ?_) (fun c_2 => ?_)
  rotate_left
  · exact absurd c_2 (by decide)
  refine lv_aload_n hx hb dX6_write_75 rfl (lv_at hl 0 rfl) ?_
  refine mm_get (v := .ref it) (ci := 6) (C := RX6) (T := TX6) (N := 34) hx hb hts (in_X6_write_X6) hown hK hM h_mo rfl 1 (by decide) (hts (.fieldLink RX6 13 "GroupLogModel" "isTorn" "[Z") (List.mem_of_getElem? (i := 5) rfl)) rfl dX6_write_76 ?_
  refine lv_iload_n hx hb dX6_write_79 rfl (lv_at hl 1 rfl) ?_
  refine lv_iconst (v := 0) hx hb dX6_write_80 (by decide) ?_
  refine mm_zast hx hb hK hM hS 3 h_it rfl (j := 1) (rfl) (by decide) (by decide) dX6_write_81 (fun H locs M hM ha ho hS => ?_)
  have h_mo := (ho mo (mm_ne h_mo h_it mm_oa)).trans h_mo
  have h_it : _ = some (Sum.inl (cZ, 64, .inl (upd (fun _ => 0) (1) ((vp_nar .boolean (0))))) : va_E) := ha
  refine lv_aload_n hx hb dX6_write_82 rfl (lv_at hl 0 rfl) ?_
  refine lv_dup hx hb dX6_write_83 rfl ?_
  refine mm_get (v := .int 0) (ci := 6) (C := RX6) (T := TX6) (N := 34) hx hb hts (in_X6_write_X6) hown hK hM h_mo rfl 6 (by decide) (hts (.fieldLink RX6 96 "GroupLogModel" "steps" "I") (List.mem_of_getElem? (i := 6) rfl)) rfl dX6_write_84 ?_
  refine lv_iconst (v := 1) hx hb dX6_write_87 (by decide) ?_
  refine lv_iadd hx hb dX6_write_88 ?_
  refine lv_topi (fun z3 ez3 => ?_)
  have ez3 : z3 = 1 := ez3.trans (by decide)
  subst ez3
  refine mm_put (v := .int 1) (ci := 6) (C := RX6) (T := TX6) (N := 34) hx hb hts (in_X6_write_X6) tyX6 tyX6_ok nmX6 hown hK hM hS h_mo rfl 6 (by decide) (hts (.fieldLink RX6 96 "GroupLogModel" "steps" "I") (List.mem_of_getElem? (i := 6) rfl)) rfl rfl rfl (Nat.le_of_ble_eq_true rfl) dX6_write_89 (fun H locs M hM ha ho hS => ?_)
  have h_it := (ho it (mm_ne h_it h_mo mm_ao)).trans h_it
  have h_mo : _ = some (Sum.inr (6, [.ref dk, .ref it, .int 1, .int (-1), .int 0, .int 10, .int 1, .int 0, .ref tq, .int 0, .ref qq, .int 0, .ref qg, .int 0, .int 0, .int 0, .int 2, .int 1, .int 1, .int 2, .int 2, .int 1, .int 0, .ref r1, .ref r2, .ref r3, .ref sc, .int 0, .ref hd, .int 0, .int 0, .int 0, .int 0, .int 0]) : va_E) := ha
  refine lv_aload_n hx hb dX6_write_92 rfl (lv_at hl 0 rfl) ?_
  refine lv_dup hx hb dX6_write_93 rfl ?_
  refine mm_get (v := .int (-1)) (ci := 6) (C := RX6) (T := TX6) (N := 34) hx hb hts (in_X6_write_X6) hown hK hM h_mo rfl 3 (by decide) (hts (.fieldLink RX6 21 "GroupLogModel" "armed" "I") (List.mem_of_getElem? (i := 1) rfl)) rfl dX6_write_94 ?_
  refine lv_aload_n hx hb dX6_write_97 rfl (lv_at hl 0 rfl) ?_
  refine mm_get (v := .int (-1)) (ci := 6) (C := RX6) (T := TX6) (N := 34) hx hb hts (in_X6_write_X6) hown hK hM h_mo rfl 3 (by decide) (hts (.fieldLink RX6 21 "GroupLogModel" "armed" "I") (List.mem_of_getElem? (i := 1) rfl)) rfl dX6_write_98 ?_
  refine lv_if_le (tgt := 108) hx hb dX6_write_101 (by decide) (fun c_4 => ?_) (fun c_4 => ?_)
  rotate_left
  · exact absurd c_4 (by decide)
  refine lv_iconst (v := 0) hx hb dX6_write_108 (by decide) ?_
  refine lv_isub hx hb dX6_write_109 ?_
  refine lv_topi (fun z5 ez5 => ?_)
  have ez5 : z5 = (-1) := ez5.trans (by decide)
  subst ez5
  refine mm_put (v := .int (-1)) (ci := 6) (C := RX6) (T := TX6) (N := 34) hx hb hts (in_X6_write_X6) tyX6 tyX6_ok nmX6 hown hK hM hS h_mo rfl 3 (by decide) (hts (.fieldLink RX6 21 "GroupLogModel" "armed" "I") (List.mem_of_getElem? (i := 1) rfl)) rfl rfl rfl (Nat.le_of_ble_eq_true rfl) dX6_write_110 (fun H locs M hM ha ho hS => ?_)
  have h_it := (ho it (mm_ne h_it h_mo mm_ao)).trans h_it
  have h_mo : _ = some (Sum.inr (6, [.ref dk, .ref it, .int 1, .int (-1), .int 0, .int 10, .int 1, .int 0, .ref tq, .int 0, .ref qq, .int 0, .ref qg, .int 0, .int 0, .int 0, .int 2, .int 1, .int 1, .int 2, .int 2, .int 1, .int 0, .ref r1, .ref r2, .ref r3, .ref sc, .int 0, .ref hd, .int 0, .int 0, .int 0, .int 0, .int 0]) : va_E) := ha
  refine lv_iconst (v := 1) hx hb dX6_write_113 (by decide) ?_
  exact mm_zret hx hb hr hlk (rfl) hM hS (⟨rfl, h_mo⟩) dX6_write_114

theorem in_X6_checkpoint_X6 : ∀ w ∈ u_ws RX6 TX6 34, w ∈ wsX6_checkpoint := fun w h => List.mem_cons_of_mem _ (List.mem_append_right _ h)
set_option maxHeartbeats 4000000 in
set_option maxRecDepth 100000 in
theorem c_X6_checkpoint {l : Launch} {D : va_G} {A : Nat → Prop} {cI cS cB cZ : ClassId} {M : Nat → Option va_E} {sz : Nat} {mo dk it tq qq qg r1 r2 r3 sc hd : Nat} (his : it ≠ sc) {k : Int32} (h_mo : M mo = some (Sum.inr (6, [.ref dk, .ref it, .int 1, .int (-1), .int 0, .int 10, .int 0, .int 0, .ref tq, .int 0, .ref qq, .int 0, .ref qg, .int 0, .int 0, .int 0, .int 1, .int 1, .int 1, .int 2, .int 2, .int 1, .int 0, .ref r1, .ref r2, .ref r3, .ref sc, .int 0, .ref hd, .int 0, .int 0, .int 0, .int 0, .int 0]) : va_E)) (h_dk : M dk = some (Sum.inl (cB, 4096, .inl (md_F)) : va_E)) (h_it : M it = some (Sum.inl (cZ, 64, .inl (fun _ => 0)) : va_E)) (h_sc : M sc = some (Sum.inl (cB, 64, .inl (mh_f 1 1 1 2)) : va_E)) : Met l yX6_checkpoint wsX6_checkpoint ({ frames := 3, cells := 0, slots := 0, locals := 66 }) (mm_Pc D A (mm_T cI cS cB cZ) M sz [.ref mo, .int k]) (mm_Qi D A (fun r M1 => r = cp_f k)) 0 0 A := by
  refine mm_met (cc := cX6_checkpoint) (maxL := 11) (ret := (some .int)) (by decide) rfl (Nat.le_of_ble_eq_true rfl) ?_
  intro p e s m args below meth c hx hb hr hts hown hlk hin hml hsz hK hM hS ls hl
  subst hsz
  have hl : lv_has ls 11 [(0, .ref mo), (1, .int k)] := hl
  refine lv_aload_n hx hb dX6_checkpoint_0 rfl (lv_at hl 0 rfl) ?_
  refine mm_get (v := .int 1) (ci := 6) (C := RX6) (T := TX6) (N := 34) hx hb hts (in_X6_checkpoint_X6) hown hK hM h_mo rfl 2 (by decide) (hts (.fieldLink RX6 17 "GroupLogModel" "isOn" "Z") (List.mem_of_getElem? (i := 1) rfl)) rfl dX6_checkpoint_1 ?_
  refine lv_if_ne (tgt := 10) hx hb dX6_checkpoint_4 (by decide) (fun c_1 => ?_) (fun c_1 => ?_)
  rotate_left
  · exact absurd c_1 (by decide)
  refine lv_iload_n hx hb dX6_checkpoint_10 rfl (lv_at hl 1 rfl) ?_
  refine lv_aload_n hx hb dX6_checkpoint_11 rfl (lv_at hl 0 rfl) ?_
  refine mm_get (v := .int 1) (ci := 6) (C := RX6) (T := TX6) (N := 34) hx hb hts (in_X6_checkpoint_X6) hown hK hM h_mo rfl 18 (by decide) (hts (.fieldLink RX6 44 "GroupLogModel" "firstRecord" "I") (List.mem_of_getElem? (i := 2) rfl)) rfl dX6_checkpoint_12 ?_
  refine lv_icmp_lt (tgt := 28) hx hb dX6_checkpoint_15 (by decide) (fun c_2 => ?_) (fun c_2 => ?_)
  · skip
    refine lv_iconst (v := (-1)) hx hb dX6_checkpoint_28 (by decide) ?_
    exact mm_iret hx hb hr hlk hM hS (cp_lo c_2) dX6_checkpoint_29
  · skip
    refine lv_iload_n hx hb dX6_checkpoint_18 rfl (lv_at hl 1 rfl) ?_
    refine lv_aload_n hx hb dX6_checkpoint_19 rfl (lv_at hl 0 rfl) ?_
    refine mm_get (v := .int 0) (ci := 6) (C := RX6) (T := TX6) (N := 34) hx hb hts (in_X6_checkpoint_X6) hown hK hM h_mo rfl 22 (by decide) (hts (.fieldLink RX6 115 "GroupLogModel" "lastSafe" "I") (List.mem_of_getElem? (i := 3) rfl)) rfl dX6_checkpoint_20 ?_
    refine lv_iconst (v := 1) hx hb dX6_checkpoint_23 (by decide) ?_
    refine lv_iadd hx hb dX6_checkpoint_24 ?_
    refine lv_topi (fun z3 ez3 => ?_)
    have ez3 : z3 = 1 := ez3.trans (by decide)
    subst ez3
    refine lv_icmp_le (tgt := 30) hx hb dX6_checkpoint_25 (by decide) (fun c_4 => ?_) (fun c_4 => ?_)
    · skip
      obtain rfl := cp_eq c_2 c_4
      refine lv_aload_n hx hb dX6_checkpoint_30 rfl (lv_at hl 0 rfl) ?_
      refine mm_get (v := .int 2) (ci := 6) (C := RX6) (T := TX6) (N := 34) hx hb hts (in_X6_checkpoint_X6) hown hK hM h_mo rfl 20 (by decide) (hts (.fieldLink RX6 50 "GroupLogModel" "nextSector" "I") (List.mem_of_getElem? (i := 4) rfl)) rfl dX6_checkpoint_31 ?_
      refine lv_istore_n (lv' := [(2, .int 2), (0, .ref mo), (1, .int 1)]) hx hb dX6_checkpoint_34 rfl hl (by decide) rfl (fun ls hl => ?_)
      refine lv_aload_n hx hb dX6_checkpoint_35 rfl (lv_at hl 1 rfl) ?_
      refine mm_get (v := .int 1) (ci := 6) (C := RX6) (T := TX6) (N := 34) hx hb hts (in_X6_checkpoint_X6) hown hK hM h_mo rfl 21 (by decide) (hts (.fieldLink RX6 53 "GroupLogModel" "nextSerial" "I") (List.mem_of_getElem? (i := 5) rfl)) rfl dX6_checkpoint_36 ?_
      refine lv_istore_n (lv' := [(3, .int 1), (2, .int 2), (0, .ref mo), (1, .int 1)]) hx hb dX6_checkpoint_39 rfl hl (by decide) rfl (fun ls hl => ?_)
      refine lv_iload_n hx hb dX6_checkpoint_40 rfl (lv_at hl 3 rfl) ?_
      refine lv_istore (lv' := [(4, .int 1), (3, .int 1), (2, .int 2), (0, .ref mo), (1, .int 1)]) hx hb dX6_checkpoint_41 hl (by decide) rfl (fun ls hl => ?_)
      refine lv_iload_n hx hb dX6_checkpoint_43 rfl (lv_at hl 4 rfl) ?_
      refine lv_aload_n hx hb dX6_checkpoint_44 rfl (lv_at hl 3 rfl) ?_
      refine mm_get (v := .int 0) (ci := 6) (C := RX6) (T := TX6) (N := 34) hx hb hts (in_X6_checkpoint_X6) hown hK hM h_mo rfl 22 (by decide) (hts (.fieldLink RX6 115 "GroupLogModel" "lastSafe" "I") (List.mem_of_getElem? (i := 3) rfl)) rfl dX6_checkpoint_45 ?_
      refine lv_icmp_gt (tgt := 105) hx hb dX6_checkpoint_48 (by decide) (fun c_5 => ?_) (fun c_5 => ?_)
      rotate_left
      · exact absurd c_5 (by decide)
      refine lv_aload_n hx hb dX6_checkpoint_105 rfl (lv_at hl 3 rfl) ?_
      refine mm_get (v := .int 1) (ci := 6) (C := RX6) (T := TX6) (N := 34) hx hb hts (in_X6_checkpoint_X6) hown hK hM h_mo rfl 16 (by decide) (hts (.fieldLink RX6 38 "GroupLogModel" "version" "I") (List.mem_of_getElem? (i := 7) rfl)) rfl dX6_checkpoint_106 ?_
      refine lv_istore (lv' := [(5, .int 1), (4, .int 1), (3, .int 1), (2, .int 2), (0, .ref mo), (1, .int 1)]) hx hb dX6_checkpoint_109 hl (by decide) rfl (fun ls hl => ?_)
      refine lv_aload_n hx hb dX6_checkpoint_111 rfl (lv_at hl 4 rfl) ?_
      refine mm_get (v := .int 1) (ci := 6) (C := RX6) (T := TX6) (N := 34) hx hb hts (in_X6_checkpoint_X6) hown hK hM h_mo rfl 17 (by decide) (hts (.fieldLink RX6 41 "GroupLogModel" "firstSerial" "I") (List.mem_of_getElem? (i := 8) rfl)) rfl dX6_checkpoint_112 ?_
      refine lv_istore (lv' := [(6, .int 1), (5, .int 1), (4, .int 1), (3, .int 1), (2, .int 2), (0, .ref mo), (1, .int 1)]) hx hb dX6_checkpoint_115 hl (by decide) rfl (fun ls hl => ?_)
      refine lv_aload_n hx hb dX6_checkpoint_117 rfl (lv_at hl 5 rfl) ?_
      refine mm_get (v := .int 1) (ci := 6) (C := RX6) (T := TX6) (N := 34) hx hb hts (in_X6_checkpoint_X6) hown hK hM h_mo rfl 18 (by decide) (hts (.fieldLink RX6 44 "GroupLogModel" "firstRecord" "I") (List.mem_of_getElem? (i := 2) rfl)) rfl dX6_checkpoint_118 ?_
      refine lv_istore (lv' := [(7, .int 1), (6, .int 1), (5, .int 1), (4, .int 1), (3, .int 1), (2, .int 2), (0, .ref mo), (1, .int 1)]) hx hb dX6_checkpoint_121 hl (by decide) rfl (fun ls hl => ?_)
      refine lv_aload_n hx hb dX6_checkpoint_123 rfl (lv_at hl 6 rfl) ?_
      refine mm_get (v := .int 2) (ci := 6) (C := RX6) (T := TX6) (N := 34) hx hb hts (in_X6_checkpoint_X6) hown hK hM h_mo rfl 19 (by decide) (hts (.fieldLink RX6 47 "GroupLogModel" "place" "I") (List.mem_of_getElem? (i := 9) rfl)) rfl dX6_checkpoint_124 ?_
      refine lv_istore (lv' := [(8, .int 2), (7, .int 1), (6, .int 1), (5, .int 1), (4, .int 1), (3, .int 1), (2, .int 2), (0, .ref mo), (1, .int 1)]) hx hb dX6_checkpoint_127 hl (by decide) rfl (fun ls hl => ?_)
      refine lv_aload_n hx hb dX6_checkpoint_129 rfl (lv_at hl 7 rfl) ?_
      refine lv_dup hx hb dX6_checkpoint_130 rfl ?_
      refine mm_get (v := .int 1) (ci := 6) (C := RX6) (T := TX6) (N := 34) hx hb hts (in_X6_checkpoint_X6) hown hK hM h_mo rfl 16 (by decide) (hts (.fieldLink RX6 38 "GroupLogModel" "version" "I") (List.mem_of_getElem? (i := 7) rfl)) rfl dX6_checkpoint_131 ?_
      refine lv_iconst (v := 1) hx hb dX6_checkpoint_134 (by decide) ?_
      refine lv_iadd hx hb dX6_checkpoint_135 ?_
      refine lv_topi (fun z6 ez6 => ?_)
      have ez6 : z6 = 2 := ez6.trans (by decide)
      subst ez6
      refine mm_put (v := .int 2) (ci := 6) (C := RX6) (T := TX6) (N := 34) hx hb hts (in_X6_checkpoint_X6) tyX6 tyX6_ok nmX6 hown hK hM hS h_mo rfl 16 (by decide) (hts (.fieldLink RX6 38 "GroupLogModel" "version" "I") (List.mem_of_getElem? (i := 7) rfl)) rfl rfl rfl (Nat.le_of_ble_eq_true rfl) dX6_checkpoint_136 (fun H locs M hM ha ho hS => ?_)
      have h_dk := (ho dk (mm_ne h_dk h_mo mm_ao)).trans h_dk
      have h_it := (ho it (mm_ne h_it h_mo mm_ao)).trans h_it
      have h_sc := (ho sc (mm_ne h_sc h_mo mm_ao)).trans h_sc
      have h_mo : _ = some (Sum.inr (6, [.ref dk, .ref it, .int 1, .int (-1), .int 0, .int 10, .int 0, .int 0, .ref tq, .int 0, .ref qq, .int 0, .ref qg, .int 0, .int 0, .int 0, .int 2, .int 1, .int 1, .int 2, .int 2, .int 1, .int 0, .ref r1, .ref r2, .ref r3, .ref sc, .int 0, .ref hd, .int 0, .int 0, .int 0, .int 0, .int 0]) : va_E) := ha
      refine lv_aload_n hx hb dX6_checkpoint_139 rfl (lv_at hl 7 rfl) ?_
      refine lv_iload_n hx hb dX6_checkpoint_140 rfl (lv_at hl 5 rfl) ?_
      refine mm_put (v := .int 1) (ci := 6) (C := RX6) (T := TX6) (N := 34) hx hb hts (in_X6_checkpoint_X6) tyX6 tyX6_ok nmX6 hown hK hM hS h_mo rfl 17 (by decide) (hts (.fieldLink RX6 41 "GroupLogModel" "firstSerial" "I") (List.mem_of_getElem? (i := 8) rfl)) rfl rfl rfl (Nat.le_of_ble_eq_true rfl) dX6_checkpoint_141 (fun H locs M hM ha ho hS => ?_)
      have h_dk := (ho dk (mm_ne h_dk h_mo mm_ao)).trans h_dk
      have h_it := (ho it (mm_ne h_it h_mo mm_ao)).trans h_it
      have h_sc := (ho sc (mm_ne h_sc h_mo mm_ao)).trans h_sc
      have h_mo : _ = some (Sum.inr (6, [.ref dk, .ref it, .int 1, .int (-1), .int 0, .int 10, .int 0, .int 0, .ref tq, .int 0, .ref qq, .int 0, .ref qg, .int 0, .int 0, .int 0, .int 2, .int 1, .int 1, .int 2, .int 2, .int 1, .int 0, .ref r1, .ref r2, .ref r3, .ref sc, .int 0, .ref hd, .int 0, .int 0, .int 0, .int 0, .int 0]) : va_E) := ha
      refine lv_aload_n hx hb dX6_checkpoint_144 rfl (lv_at hl 7 rfl) ?_
      refine lv_iload hx hb dX6_checkpoint_145 (lv_at hl 4 rfl) ?_
      refine mm_put (v := .int 1) (ci := 6) (C := RX6) (T := TX6) (N := 34) hx hb hts (in_X6_checkpoint_X6) tyX6 tyX6_ok nmX6 hown hK hM hS h_mo rfl 18 (by decide) (hts (.fieldLink RX6 44 "GroupLogModel" "firstRecord" "I") (List.mem_of_getElem? (i := 2) rfl)) rfl rfl rfl (Nat.le_of_ble_eq_true rfl) dX6_checkpoint_147 (fun H locs M hM ha ho hS => ?_)
      have h_dk := (ho dk (mm_ne h_dk h_mo mm_ao)).trans h_dk
      have h_it := (ho it (mm_ne h_it h_mo mm_ao)).trans h_it
      have h_sc := (ho sc (mm_ne h_sc h_mo mm_ao)).trans h_sc
      have h_mo : _ = some (Sum.inr (6, [.ref dk, .ref it, .int 1, .int (-1), .int 0, .int 10, .int 0, .int 0, .ref tq, .int 0, .ref qq, .int 0, .ref qg, .int 0, .int 0, .int 0, .int 2, .int 1, .int 1, .int 2, .int 2, .int 1, .int 0, .ref r1, .ref r2, .ref r3, .ref sc, .int 0, .ref hd, .int 0, .int 0, .int 0, .int 0, .int 0]) : va_E) := ha
      refine lv_aload_n hx hb dX6_checkpoint_150 rfl (lv_at hl 7 rfl) ?_
      refine lv_iload_n hx hb dX6_checkpoint_151 rfl (lv_at hl 6 rfl) ?_
      refine mm_put (v := .int 2) (ci := 6) (C := RX6) (T := TX6) (N := 34) hx hb hts (in_X6_checkpoint_X6) tyX6 tyX6_ok nmX6 hown hK hM hS h_mo rfl 19 (by decide) (hts (.fieldLink RX6 47 "GroupLogModel" "place" "I") (List.mem_of_getElem? (i := 9) rfl)) rfl rfl rfl (Nat.le_of_ble_eq_true rfl) dX6_checkpoint_152 (fun H locs M hM ha ho hS => ?_)
      have h_dk := (ho dk (mm_ne h_dk h_mo mm_ao)).trans h_dk
      have h_it := (ho it (mm_ne h_it h_mo mm_ao)).trans h_it
      have h_sc := (ho sc (mm_ne h_sc h_mo mm_ao)).trans h_sc
      have h_mo : _ = some (Sum.inr (6, [.ref dk, .ref it, .int 1, .int (-1), .int 0, .int 10, .int 0, .int 0, .ref tq, .int 0, .ref qq, .int 0, .ref qg, .int 0, .int 0, .int 0, .int 2, .int 1, .int 1, .int 2, .int 2, .int 1, .int 0, .ref r1, .ref r2, .ref r3, .ref sc, .int 0, .ref hd, .int 0, .int 0, .int 0, .int 0, .int 0]) : va_E) := ha
      refine lv_aload_n hx hb dX6_checkpoint_155 rfl (lv_at hl 7 rfl) ?_
      refine mm_callv (mm_runV (As := []) (rest := []) ⟨hx, hb, hml, hown, hts⟩ (c_X6_makeHead h_mo h_sc) (cwV 0 hts gX6_checkpoint_X6_makeHead rfl rfl rfl (by decide +kernel) ⟨Nat.le_of_ble_eq_true rfl, Nat.le_of_ble_eq_true rfl⟩) hK hM h_mo rfl rfl hl.1 rfl (Nat.le_of_ble_eq_true rfl) dX6_checkpoint_156 ⟨Nat.le_of_ble_eq_true rfl, Nat.le_of_ble_eq_true rfl⟩) hS (fun _ h => h) (fun M H locs hp hM hS hz _ => ?_)
      obtain ⟨ha, ho⟩ := hp
      have h_mo := (ho mo (mm_ne h_mo h_sc mm_oa)).trans h_mo
      have h_dk := (ho dk (mm_ne h_dk h_sc (mm_an (by decide)))).trans h_dk
      have h_it := (ho it his).trans h_it
      have h_sc : _ = some (Sum.inl (cB, 64, .inl (mh_f 2 1 1 2)) : va_E) := ha
      refine lv_aload_n hx hb dX6_checkpoint_159 rfl (lv_at hl 7 rfl) ?_
      refine lv_iconst (v := 1) hx hb dX6_checkpoint_160 (by decide) ?_
      refine lv_aload_n hx hb dX6_checkpoint_161 rfl (lv_at hl 7 rfl) ?_
      refine mm_get (v := .int 0) (ci := 6) (C := RX6) (T := TX6) (N := 34) hx hb hts (in_X6_checkpoint_X6) hown hK hM h_mo rfl 15 (by decide) (hts (.fieldLink RX6 139 "GroupLogModel" "headSector" "I") (List.mem_of_getElem? (i := 10) rfl)) rfl dX6_checkpoint_162 ?_
      refine lv_isub hx hb dX6_checkpoint_165 ?_
      refine lv_topi (fun z7 ez7 => ?_)
      have ez7 : z7 = 1 := ez7.trans (by decide)
      subst ez7
      refine mm_calli (mm_runV (As := [.int 1]) (rest := []) ⟨hx, hb, hml, hown, hts⟩ (c_X6_write (tq := tq) h_mo h_dk h_it h_sc) (cwV 1 hts gX6_checkpoint_X6_write rfl rfl rfl (by decide +kernel) ⟨Nat.le_of_ble_eq_true rfl, Nat.le_of_ble_eq_true rfl⟩) hK hM h_mo rfl rfl hl.1 rfl (Nat.le_of_ble_eq_true rfl) dX6_checkpoint_166 ⟨Nat.le_of_ble_eq_true rfl, Nat.le_of_ble_eq_true rfl⟩) hS (fun _ h => h) (fun r8 M H locs hp hM hS hz _ => ?_)
      obtain ⟨rfl, h_mo⟩ := hp
      refine lv_if_ne (tgt := 199) hx hb dX6_checkpoint_169 (by decide) (fun c_9 => ?_) (fun c_9 => ?_)
      rotate_left
      · exact absurd c_9 (by decide)
      refine lv_aload_n hx hb dX6_checkpoint_199 rfl (lv_at hl 7 rfl) ?_
      refine lv_iconst (v := 1) hx hb dX6_checkpoint_200 (by decide) ?_
      refine lv_aload_n hx hb dX6_checkpoint_201 rfl (lv_at hl 7 rfl) ?_
      refine mm_get (v := .int 0) (ci := 6) (C := RX6) (T := TX6) (N := 34) hx hb hts (in_X6_checkpoint_X6) hown hK hM h_mo rfl 15 (by decide) (hts (.fieldLink RX6 139 "GroupLogModel" "headSector" "I") (List.mem_of_getElem? (i := 10) rfl)) rfl dX6_checkpoint_202 ?_
      refine lv_isub hx hb dX6_checkpoint_205 ?_
      refine lv_topi (fun z10 ez10 => ?_)
      have ez10 : z10 = 1 := ez10.trans (by decide)
      subst ez10
      refine mm_put (v := .int 1) (ci := 6) (C := RX6) (T := TX6) (N := 34) hx hb hts (in_X6_checkpoint_X6) tyX6 tyX6_ok nmX6 hown hK hM hS h_mo rfl 15 (by decide) (hts (.fieldLink RX6 139 "GroupLogModel" "headSector" "I") (List.mem_of_getElem? (i := 10) rfl)) rfl rfl rfl (Nat.le_of_ble_eq_true rfl) dX6_checkpoint_206 (fun H locs M hM ha ho hS => ?_)
      have h_mo : _ = some (Sum.inr (6, [.ref dk, .ref it, .int 1, .int (-1), .int 0, .int 10, .int 1, .int 0, .ref tq, .int 0, .ref qq, .int 0, .ref qg, .int 0, .int 0, .int 1, .int 2, .int 1, .int 1, .int 2, .int 2, .int 1, .int 0, .ref r1, .ref r2, .ref r3, .ref sc, .int 0, .ref hd, .int 0, .int 0, .int 0, .int 0, .int 0]) : va_E) := ha
      refine lv_iload hx hb dX6_checkpoint_209 (lv_at hl 4 rfl) ?_
      refine lv_iload hx hb dX6_checkpoint_211 (lv_at hl 1 rfl) ?_
      refine lv_isub hx hb dX6_checkpoint_213 ?_
      refine lv_topi (fun z11 ez11 => ?_)
      have ez11 : z11 = 0 := ez11.trans (by decide)
      subst ez11
      refine lv_istore (lv' := [(9, .int 0), (8, .int 2), (7, .int 1), (6, .int 1), (5, .int 1), (4, .int 1), (3, .int 1), (2, .int 2), (0, .ref mo), (1, .int 1)]) hx hb dX6_checkpoint_214 hl (by decide) rfl (fun ls hl => ?_)
      refine lv_iconst (v := 0) hx hb dX6_checkpoint_216 (by decide) ?_
      refine lv_istore (lv' := [(10, .int 0), (9, .int 0), (8, .int 2), (7, .int 1), (6, .int 1), (5, .int 1), (4, .int 1), (3, .int 1), (2, .int 2), (0, .ref mo), (1, .int 1)]) hx hb dX6_checkpoint_217 hl (by decide) rfl (fun ls hl => ?_)
      refine lv_iload hx hb dX6_checkpoint_219 (lv_at hl 0 rfl) ?_
      refine lv_aload_n hx hb dX6_checkpoint_221 rfl (lv_at hl 9 rfl) ?_
      refine mm_get (v := .int 0) (ci := 6) (C := RX6) (T := TX6) (N := 34) hx hb hts (in_X6_checkpoint_X6) hown hK hM h_mo rfl 22 (by decide) (hts (.fieldLink RX6 115 "GroupLogModel" "lastSafe" "I") (List.mem_of_getElem? (i := 3) rfl)) rfl dX6_checkpoint_222 ?_
      refine lv_iload hx hb dX6_checkpoint_225 (lv_at hl 6 rfl) ?_
      refine lv_isub hx hb dX6_checkpoint_227 ?_
      refine lv_topi (fun z12 ez12 => ?_)
      have ez12 : z12 = (-1) := ez12.trans (by decide)
      subst ez12
      refine lv_icmp_gt (tgt := 288) hx hb dX6_checkpoint_228 (by decide) (fun c_13 => ?_) (fun c_13 => ?_)
      rotate_left
      · exact absurd c_13 (by decide)
      refine lv_iload_n hx hb dX6_checkpoint_288 rfl (lv_at hl 7 rfl) ?_
      refine lv_iload hx hb dX6_checkpoint_289 (lv_at hl 4 rfl) ?_
      refine lv_isub hx hb dX6_checkpoint_291 ?_
      refine lv_topi (fun z14 ez14 => ?_)
      have ez14 : z14 = 0 := ez14.trans (by decide)
      subst ez14
      exact mm_iret hx hb hr hlk hM hS (rfl) dX6_checkpoint_292
    · skip
      refine lv_iconst (v := (-1)) hx hb dX6_checkpoint_28 (by decide) ?_
      exact mm_iret hx hb hr hlk hM hS (cp_hi c_4) dX6_checkpoint_29
end
section
theorem zz_last : True := trivial
end

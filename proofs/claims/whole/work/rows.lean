section
-- ===== PART A: goes FIRST, ahead of the names: the tables' words, and 'selects' of the private methods out of them =====
/-- a private method of a class that the tables say can be made, by its rows of tables_1 -/
def lw_okq (q : MethodName × Nat) : Prop := (q.1.cls ≠ "java/lang/invoke/MethodHandle" ∧ q.1.cls ≠ "java/lang/invoke/VarHandle") ∧ Cond.instantiable q.1.cls q.2 ∈ tables_1 ∧ Cond.privateMethod q.1 ∈ tables_1 ∧ Cond.instanceMethod q.1 ∈ tables_1
theorem lw_p0 : lw_okq (⟨"TroubleCodes", "checkAt", "(I)LTroubleCodes$Check;"⟩, 9) := ⟨⟨by decide +kernel, by decide +kernel⟩, List.mem_of_getElem? (i := 8) (by decide +kernel), List.mem_of_getElem? (i := 103) (by decide +kernel), List.mem_of_getElem? (i := 104) (by decide +kernel)⟩
theorem lw_p1 : lw_okq (⟨"TroubleCodes", "troubledBits", "()I"⟩, 9) := ⟨⟨by decide +kernel, by decide +kernel⟩, List.mem_of_getElem? (i := 8) (by decide +kernel), List.mem_of_getElem? (i := 180) (by decide +kernel), List.mem_of_getElem? (i := 181) (by decide +kernel)⟩
theorem lw_p2 : lw_okq (⟨"TroubleCodes", "codeBits", "(I)I"⟩, 9) := ⟨⟨by decide +kernel, by decide +kernel⟩, List.mem_of_getElem? (i := 8) (by decide +kernel), List.mem_of_getElem? (i := 184) (by decide +kernel), List.mem_of_getElem? (i := 185) (by decide +kernel)⟩
theorem lw_p3 : lw_okq (⟨"TroubleCodes", "endFor", "(LTroubleCodes$Check;)Z"⟩, 9) := ⟨⟨by decide +kernel, by decide +kernel⟩, List.mem_of_getElem? (i := 8) (by decide +kernel), List.mem_of_getElem? (i := 200) (by decide +kernel), List.mem_of_getElem? (i := 201) (by decide +kernel)⟩
theorem lw_p4 : lw_okq (⟨"TroubleCodes", "isHeldBack", "(LTroubleCodes$Check;)Z"⟩, 9) := ⟨⟨by decide +kernel, by decide +kernel⟩, List.mem_of_getElem? (i := 8) (by decide +kernel), List.mem_of_getElem? (i := 204) (by decide +kernel), List.mem_of_getElem? (i := 205) (by decide +kernel)⟩
theorem lw_p5 : lw_okq (⟨"TroubleCodes$Check", "countBad", "(Z)Z"⟩, 18) := ⟨⟨by decide +kernel, by decide +kernel⟩, List.mem_of_getElem? (i := 106) (by decide +kernel), List.mem_of_getElem? (i := 216) (by decide +kernel), List.mem_of_getElem? (i := 217) (by decide +kernel)⟩
theorem lw_p6 : lw_okq (⟨"TroubleCodes$Check", "countGood", "()V"⟩, 18) := ⟨⟨by decide +kernel, by decide +kernel⟩, List.mem_of_getElem? (i := 106) (by decide +kernel), List.mem_of_getElem? (i := 220) (by decide +kernel), List.mem_of_getElem? (i := 221) (by decide +kernel)⟩
theorem lw_p7 : lw_okq (⟨"TroubleCodes$Check", "growOlder", "()V"⟩, 18) := ⟨⟨by decide +kernel, by decide +kernel⟩, List.mem_of_getElem? (i := 106) (by decide +kernel), List.mem_of_getElem? (i := 224) (by decide +kernel), List.mem_of_getElem? (i := 225) (by decide +kernel)⟩
theorem lw_p8 : lw_okq (⟨"TroubleCodes", "freeze", "(LTroubleCodes$Check;)V"⟩, 9) := ⟨⟨by decide +kernel, by decide +kernel⟩, List.mem_of_getElem? (i := 8) (by decide +kernel), List.mem_of_getElem? (i := 236) (by decide +kernel), List.mem_of_getElem? (i := 237) (by decide +kernel)⟩
theorem lw_p9 : lw_okq (⟨"TroubleCodes", "frozenCount", "()I"⟩, 9) := ⟨⟨by decide +kernel, by decide +kernel⟩, List.mem_of_getElem? (i := 8) (by decide +kernel), List.mem_of_getElem? (i := 247) (by decide +kernel), List.mem_of_getElem? (i := 248) (by decide +kernel)⟩
theorem lw_p10 : lw_okq (⟨"TroubleCodes", "leastFrozen", "()LTroubleCodes$Check;"⟩, 9) := ⟨⟨by decide +kernel, by decide +kernel⟩, List.mem_of_getElem? (i := 8) (by decide +kernel), List.mem_of_getElem? (i := 255) (by decide +kernel), List.mem_of_getElem? (i := 256) (by decide +kernel)⟩
theorem lw_p11 : lw_okq (⟨"TroubleCodes", "ranBits", "()I"⟩, 9) := ⟨⟨by decide +kernel, by decide +kernel⟩, List.mem_of_getElem? (i := 8) (by decide +kernel), List.mem_of_getElem? (i := 325) (by decide +kernel), List.mem_of_getElem? (i := 326) (by decide +kernel)⟩
theorem lw_p12 : lw_okq (⟨"TroubleCodes", "lookAtCodes", "()V"⟩, 9) := ⟨⟨by decide +kernel, by decide +kernel⟩, List.mem_of_getElem? (i := 8) (by decide +kernel), List.mem_of_getElem? (i := 337) (by decide +kernel), List.mem_of_getElem? (i := 338) (by decide +kernel)⟩
theorem lw_p13 : lw_okq (⟨"TroubleCodes$Workshop", "findLeast", "()V"⟩, 13) := ⟨⟨by decide +kernel, by decide +kernel⟩, List.mem_of_getElem? (i := 18) (by decide +kernel), List.mem_of_getElem? (i := 345) (by decide +kernel), List.mem_of_getElem? (i := 346) (by decide +kernel)⟩
theorem lw_p14 : lw_okq (⟨"TroubleCodes$Workshop", "makePlan", "()V"⟩, 13) := ⟨⟨by decide +kernel, by decide +kernel⟩, List.mem_of_getElem? (i := 18) (by decide +kernel), List.mem_of_getElem? (i := 368) (by decide +kernel), List.mem_of_getElem? (i := 369) (by decide +kernel)⟩
theorem lw_p15 : lw_okq (⟨"TroubleCodes$Workshop", "holdersOf", "(I)I"⟩, 13) := ⟨⟨by decide +kernel, by decide +kernel⟩, List.mem_of_getElem? (i := 18) (by decide +kernel), List.mem_of_getElem? (i := 372) (by decide +kernel), List.mem_of_getElem? (i := 373) (by decide +kernel)⟩
def lw_privs_1 : List (MethodName × Nat) := [(⟨"TroubleCodes", "checkAt", "(I)LTroubleCodes$Check;"⟩, 9), (⟨"TroubleCodes", "troubledBits", "()I"⟩, 9), (⟨"TroubleCodes", "codeBits", "(I)I"⟩, 9), (⟨"TroubleCodes", "endFor", "(LTroubleCodes$Check;)Z"⟩, 9), (⟨"TroubleCodes", "isHeldBack", "(LTroubleCodes$Check;)Z"⟩, 9), (⟨"TroubleCodes$Check", "countBad", "(Z)Z"⟩, 18), (⟨"TroubleCodes$Check", "countGood", "()V"⟩, 18), (⟨"TroubleCodes$Check", "growOlder", "()V"⟩, 18), (⟨"TroubleCodes", "freeze", "(LTroubleCodes$Check;)V"⟩, 9), (⟨"TroubleCodes", "frozenCount", "()I"⟩, 9), (⟨"TroubleCodes", "leastFrozen", "()LTroubleCodes$Check;"⟩, 9), (⟨"TroubleCodes", "ranBits", "()I"⟩, 9), (⟨"TroubleCodes", "lookAtCodes", "()V"⟩, 9), (⟨"TroubleCodes$Workshop", "findLeast", "()V"⟩, 13), (⟨"TroubleCodes$Workshop", "makePlan", "()V"⟩, 13), (⟨"TroubleCodes$Workshop", "holdersOf", "(I)I"⟩, 13)]
theorem lw_r1 : ∀ q ∈ lw_privs_1, lw_okq q := List.forall_mem_cons.mpr ⟨lw_p0, List.forall_mem_cons.mpr ⟨lw_p1, List.forall_mem_cons.mpr ⟨lw_p2, List.forall_mem_cons.mpr ⟨lw_p3, List.forall_mem_cons.mpr ⟨lw_p4, List.forall_mem_cons.mpr ⟨lw_p5, List.forall_mem_cons.mpr ⟨lw_p6, List.forall_mem_cons.mpr ⟨lw_p7, List.forall_mem_cons.mpr ⟨lw_p8, List.forall_mem_cons.mpr ⟨lw_p9, List.forall_mem_cons.mpr ⟨lw_p10, List.forall_mem_cons.mpr ⟨lw_p11, List.forall_mem_cons.mpr ⟨lw_p12, List.forall_mem_cons.mpr ⟨lw_p13, List.forall_mem_cons.mpr ⟨lw_p14, List.forall_mem_cons.mpr ⟨lw_p15, fun _ h => absurd h List.not_mem_nil⟩⟩⟩⟩⟩⟩⟩⟩⟩⟩⟩⟩⟩⟩⟩⟩
theorem lw_p16 : lw_okq (⟨"TroubleCodes$Workshop", "allLeast", "()I"⟩, 13) := ⟨⟨by decide +kernel, by decide +kernel⟩, List.mem_of_getElem? (i := 18) (by decide +kernel), List.mem_of_getElem? (i := 376) (by decide +kernel), List.mem_of_getElem? (i := 377) (by decide +kernel)⟩
theorem lw_p17 : lw_okq (⟨"TroubleCodes$Workshop", "planFor", "(I)V"⟩, 13) := ⟨⟨by decide +kernel, by decide +kernel⟩, List.mem_of_getElem? (i := 18) (by decide +kernel), List.mem_of_getElem? (i := 380) (by decide +kernel), List.mem_of_getElem? (i := 381) (by decide +kernel)⟩
theorem lw_p18 : lw_okq (⟨"TroubleCodes", "digestOfCheck", "(JI)J"⟩, 9) := ⟨⟨by decide +kernel, by decide +kernel⟩, List.mem_of_getElem? (i := 8) (by decide +kernel), List.mem_of_getElem? (i := 412) (by decide +kernel), List.mem_of_getElem? (i := 413) (by decide +kernel)⟩
theorem lw_p19 : lw_okq (⟨"TroubleCodesModel", "isCheck", "(I)Z"⟩, 33) := ⟨⟨by decide +kernel, by decide +kernel⟩, List.mem_of_getElem? (i := 425) (by decide +kernel), List.mem_of_getElem? (i := 539) (by decide +kernel), List.mem_of_getElem? (i := 540) (by decide +kernel)⟩
theorem lw_p20 : lw_okq (⟨"TroubleCodesModel", "manyFrozen", "()I"⟩, 33) := ⟨⟨by decide +kernel, by decide +kernel⟩, List.mem_of_getElem? (i := 425) (by decide +kernel), List.mem_of_getElem? (i := 555) (by decide +kernel), List.mem_of_getElem? (i := 556) (by decide +kernel)⟩
theorem lw_p21 : lw_okq (⟨"TroubleCodesModel", "leastFrozen", "()I"⟩, 33) := ⟨⟨by decide +kernel, by decide +kernel⟩, List.mem_of_getElem? (i := 425) (by decide +kernel), List.mem_of_getElem? (i := 559) (by decide +kernel), List.mem_of_getElem? (i := 560) (by decide +kernel)⟩
theorem lw_p22 : lw_okq (⟨"TroubleCodesModel", "wasBad", "(I)V"⟩, 33) := ⟨⟨by decide +kernel, by decide +kernel⟩, List.mem_of_getElem? (i := 425) (by decide +kernel), List.mem_of_getElem? (i := 567) (by decide +kernel), List.mem_of_getElem? (i := 568) (by decide +kernel)⟩
theorem lw_p23 : lw_okq (⟨"TroubleCodesModel", "isHeld", "(I)Z"⟩, 33) := ⟨⟨by decide +kernel, by decide +kernel⟩, List.mem_of_getElem? (i := 425) (by decide +kernel), List.mem_of_getElem? (i := 571) (by decide +kernel), List.mem_of_getElem? (i := 572) (by decide +kernel)⟩
theorem lw_p24 : lw_okq (⟨"TroubleCodesModel", "freezes", "(I)V"⟩, 33) := ⟨⟨by decide +kernel, by decide +kernel⟩, List.mem_of_getElem? (i := 425) (by decide +kernel), List.mem_of_getElem? (i := 575) (by decide +kernel), List.mem_of_getElem? (i := 576) (by decide +kernel)⟩
theorem lw_p25 : lw_okq (⟨"TroubleCodesModel", "wasGood", "(I)V"⟩, 33) := ⟨⟨by decide +kernel, by decide +kernel⟩, List.mem_of_getElem? (i := 425) (by decide +kernel), List.mem_of_getElem? (i := 579) (by decide +kernel), List.mem_of_getElem? (i := 580) (by decide +kernel)⟩
theorem lw_p26 : lw_okq (⟨"TroubleCodesModel", "ages", "(I)V"⟩, 33) := ⟨⟨by decide +kernel, by decide +kernel⟩, List.mem_of_getElem? (i := 425) (by decide +kernel), List.mem_of_getElem? (i := 583) (by decide +kernel), List.mem_of_getElem? (i := 584) (by decide +kernel)⟩
theorem lw_p27 : lw_okq (⟨"TroubleCodesModel", "aboutOf", "(II)I"⟩, 33) := ⟨⟨by decide +kernel, by decide +kernel⟩, List.mem_of_getElem? (i := 425) (by decide +kernel), List.mem_of_getElem? (i := 595) (by decide +kernel), List.mem_of_getElem? (i := 596) (by decide +kernel)⟩
theorem lw_p28 : lw_okq (⟨"TroubleCodesModel", "doesExplain", "(I)Z"⟩, 33) := ⟨⟨by decide +kernel, by decide +kernel⟩, List.mem_of_getElem? (i := 425) (by decide +kernel), List.mem_of_getElem? (i := 623) (by decide +kernel), List.mem_of_getElem? (i := 624) (by decide +kernel)⟩
theorem lw_p29 : lw_okq (⟨"TroubleCodesModel", "findLeast", "()V"⟩, 33) := ⟨⟨by decide +kernel, by decide +kernel⟩, List.mem_of_getElem? (i := 425) (by decide +kernel), List.mem_of_getElem? (i := 631) (by decide +kernel), List.mem_of_getElem? (i := 632) (by decide +kernel)⟩
theorem lw_p30 : lw_okq (⟨"TroubleCodesModel", "plans", "()V"⟩, 33) := ⟨⟨by decide +kernel, by decide +kernel⟩, List.mem_of_getElem? (i := 425) (by decide +kernel), List.mem_of_getElem? (i := 646) (by decide +kernel), List.mem_of_getElem? (i := 647) (by decide +kernel)⟩
theorem lw_p31 : lw_okq (⟨"TroubleCodesModel", "with", "(II)I"⟩, 33) := ⟨⟨by decide +kernel, by decide +kernel⟩, List.mem_of_getElem? (i := 425) (by decide +kernel), List.mem_of_getElem? (i := 650) (by decide +kernel), List.mem_of_getElem? (i := 651) (by decide +kernel)⟩
def lw_privs_2 : List (MethodName × Nat) := [(⟨"TroubleCodes$Workshop", "allLeast", "()I"⟩, 13), (⟨"TroubleCodes$Workshop", "planFor", "(I)V"⟩, 13), (⟨"TroubleCodes", "digestOfCheck", "(JI)J"⟩, 9), (⟨"TroubleCodesModel", "isCheck", "(I)Z"⟩, 33), (⟨"TroubleCodesModel", "manyFrozen", "()I"⟩, 33), (⟨"TroubleCodesModel", "leastFrozen", "()I"⟩, 33), (⟨"TroubleCodesModel", "wasBad", "(I)V"⟩, 33), (⟨"TroubleCodesModel", "isHeld", "(I)Z"⟩, 33), (⟨"TroubleCodesModel", "freezes", "(I)V"⟩, 33), (⟨"TroubleCodesModel", "wasGood", "(I)V"⟩, 33), (⟨"TroubleCodesModel", "ages", "(I)V"⟩, 33), (⟨"TroubleCodesModel", "aboutOf", "(II)I"⟩, 33), (⟨"TroubleCodesModel", "doesExplain", "(I)Z"⟩, 33), (⟨"TroubleCodesModel", "findLeast", "()V"⟩, 33), (⟨"TroubleCodesModel", "plans", "()V"⟩, 33), (⟨"TroubleCodesModel", "with", "(II)I"⟩, 33)]
theorem lw_r2 : ∀ q ∈ lw_privs_2, lw_okq q := List.forall_mem_cons.mpr ⟨lw_p16, List.forall_mem_cons.mpr ⟨lw_p17, List.forall_mem_cons.mpr ⟨lw_p18, List.forall_mem_cons.mpr ⟨lw_p19, List.forall_mem_cons.mpr ⟨lw_p20, List.forall_mem_cons.mpr ⟨lw_p21, List.forall_mem_cons.mpr ⟨lw_p22, List.forall_mem_cons.mpr ⟨lw_p23, List.forall_mem_cons.mpr ⟨lw_p24, List.forall_mem_cons.mpr ⟨lw_p25, List.forall_mem_cons.mpr ⟨lw_p26, List.forall_mem_cons.mpr ⟨lw_p27, List.forall_mem_cons.mpr ⟨lw_p28, List.forall_mem_cons.mpr ⟨lw_p29, List.forall_mem_cons.mpr ⟨lw_p30, List.forall_mem_cons.mpr ⟨lw_p31, fun _ h => absurd h List.not_mem_nil⟩⟩⟩⟩⟩⟩⟩⟩⟩⟩⟩⟩⟩⟩⟩⟩
theorem lw_p32 : lw_okq (⟨"TroubleCodesModel", "manyOf", "(I)I"⟩, 33) := ⟨⟨by decide +kernel, by decide +kernel⟩, List.mem_of_getElem? (i := 425) (by decide +kernel), List.mem_of_getElem? (i := 670) (by decide +kernel), List.mem_of_getElem? (i := 671) (by decide +kernel)⟩
def lw_privs_3 : List (MethodName × Nat) := [(⟨"TroubleCodesModel", "manyOf", "(I)I"⟩, 33)]
theorem lw_r3 : ∀ q ∈ lw_privs_3, lw_okq q := List.forall_mem_cons.mpr ⟨lw_p32, fun _ h => absurd h List.not_mem_nil⟩
def lw_privs : List (MethodName × Nat) := lw_privs_1 ++ (lw_privs_2 ++ (lw_privs_3))
def lw_tbl : List Cond := k2_sels lw_privs ++ tables_1
theorem lw_privs_ok : ∀ q ∈ lw_privs, lw_okq q := by
  show ∀ q ∈ lw_privs_1 ++ (lw_privs_2 ++ (lw_privs_3)), lw_okq q
  exact List.forall_mem_append.mpr ⟨lw_r1, List.forall_mem_append.mpr ⟨lw_r2, lw_r3⟩⟩
end
section
/-! ===== BEGIN words of one list among another's, by their places ===== -/
theorem goodIn_r {big : List Cond} (ws : List Cond) (ps : List Nat) (hp : ws = ps.filterMap (fun i => big[i]?)) (h : ws.all goodWord = true) : GoodIn big ws := by
  intro w hw
  have h1 := List.all_eq_true.mp h w hw
  rw [hp] at hw
  obtain ⟨i, -, hi⟩ := List.mem_filterMap.mp hw
  have hm : w ∈ big := by first | exact List.mem_of_getElem? hi | exact List.getElem?_mem hi
  exact ⟨hm, good_of_word h1⟩
theorem goodIn_app {big a b : List Cond} (ha : GoodIn big a) (hb : GoodIn big b) : GoodIn big (a ++ b) := fun w h => (List.mem_append.mp h).elim (ha w) (hb w)
theorem goodIn_ca {big a b : List Cond} {c : Cond} (ha : GoodIn big (c :: a)) (hb : GoodIn big b) : GoodIn big (c :: (a ++ b)) := fun w h => (List.mem_cons.mp h).elim (fun e => ha w (List.mem_cons.mpr (Or.inl e))) (fun h => (List.mem_append.mp h).elim (fun h => ha w (List.mem_cons.mpr (Or.inr h))) (hb w))
theorem goodIn_sub {big ws : List Cond} (hm : ∀ w ∈ ws, w ∈ big) (h : ws.all goodWord = true) : GoodIn big ws := fun w hw => ⟨hm w hw, good_of_word (List.all_eq_true.mp h w hw)⟩
/-! ===== END ===== -/

/-! ===== BEGIN printed: names, fields, word lists, decode rows ===== -/
def RX0 : String := "TroubleCodes$Check"
def TX0 : u_T := fun k => match k with
  | 0 => ("TroubleCodes$Check", "sort", "I", true)
  | 1 => ("TroubleCodes$Check", "follows", "I", true)
  | 2 => ("TroubleCodes$Check", "badLimit", "I", true)
  | 3 => ("TroubleCodes$Check", "goodLimit", "I", true)
  | 4 => ("TroubleCodes$Check", "ageLimit", "I", true)
  | 5 => ("TroubleCodes$Check", "weight", "I", true)
  | 6 => ("TroubleCodes$Check", "lamp", "Z", true)
  | 7 => ("TroubleCodes$Check", "code", "I", false)
  | 8 => ("TroubleCodes$Check", "badCount", "I", false)
  | 9 => ("TroubleCodes$Check", "goodCount", "I", false)
  | 10 => ("TroubleCodes$Check", "age", "I", false)
  | 11 => ("TroubleCodes$Check", "told", "I", false)
  | 12 => ("TroubleCodes$Check", "ranSinceCleared", "Z", false)
  | 13 => ("TroubleCodes$Check", "frozenDrive", "I", false)
  | 14 => ("TroubleCodes$Check", "frozenOrder", "I", false)
  | 15 => ("TroubleCodes$Check", "frozenFacts", "[I", true)
  | 16 => ("TroubleCodes$Check", "setDrives", "I", false)
  | _ => ("TroubleCodes$Check", "foretoldBy", "[I", true)
def tyX0 : Nat → FieldType := fun k => match k with
  | 0 => .int
  | 1 => .int
  | 2 => .int
  | 3 => .int
  | 4 => .int
  | 5 => .int
  | 6 => .boolean
  | 7 => .int
  | 8 => .int
  | 9 => .int
  | 10 => .int
  | 11 => .int
  | 12 => .boolean
  | 13 => .int
  | 14 => .int
  | 15 => .array .int
  | 16 => .int
  | _ => .array .int
abbrev wsX00 : List Cond := u_ws RX0 TX0 18
theorem nmX0 : ∀ a, a < 18 → ∀ b, b < 18 → a ≠ b → (TX0 a).2.1 ≠ (TX0 b).2.1 := by decide +kernel
theorem tyX0_ok : ∀ k, k < 18 → parseFieldDescriptor (TX0 k).2.2.1 = some (tyX0 k) := by decide +kernel
abbrev cX0_init : ByteArray := prog_2_method_1_code
def yX0_init : MethodName := ⟨RX0, "<init>", "(IIIIIIZ)V"⟩
abbrev cX0_isPermanent : ByteArray := prog_2_method_2_code
def yX0_isPermanent : MethodName := ⟨RX0, "isPermanent", "()Z"⟩
abbrev cX0_isTroubled : ByteArray := prog_2_method_3_code
def yX0_isTroubled : MethodName := ⟨RX0, "isTroubled", "()Z"⟩
abbrev cX0_isFrozen : ByteArray := prog_2_method_4_code
def yX0_isFrozen : MethodName := ⟨RX0, "isFrozen", "()Z"⟩
abbrev cX0_numberOf : ByteArray := prog_2_method_5_code
def yX0_numberOf : MethodName := ⟨RX0, "numberOf", "(I)I"⟩
abbrev cX0_tell : ByteArray := prog_2_method_6_code
def yX0_tell : MethodName := ⟨RX0, "tell", "(Z)V"⟩
abbrev cX0_countDrive : ByteArray := prog_2_method_7_code
def yX0_countDrive : MethodName := ⟨RX0, "countDrive", "(Z)Z"⟩
abbrev cX0_countBad : ByteArray := prog_2_method_8_code
def yX0_countBad : MethodName := ⟨RX0, "countBad", "(Z)Z"⟩
abbrev cX0_countGood : ByteArray := prog_2_method_9_code
def yX0_countGood : MethodName := ⟨RX0, "countGood", "()V"⟩
abbrev cX0_growOlder : ByteArray := prog_2_method_10_code
def yX0_growOlder : MethodName := ⟨RX0, "growOlder", "()V"⟩
abbrev cX0_noteSet : ByteArray := prog_2_method_11_code
def yX0_noteSet : MethodName := ⟨RX0, "noteSet", "(I)V"⟩
abbrev cX0_freeze : ByteArray := prog_2_method_12_code
def yX0_freeze : MethodName := ⟨RX0, "freeze", "([III)V"⟩
abbrev cX0_thaw : ByteArray := prog_2_method_13_code
def yX0_thaw : MethodName := ⟨RX0, "thaw", "()V"⟩
abbrev cX0_goesAheadOf : ByteArray := prog_2_method_14_code
def yX0_goesAheadOf : MethodName := ⟨RX0, "goesAheadOf", "(LTroubleCodes$Check;)Z"⟩
abbrev cX0_clearCode : ByteArray := prog_2_method_15_code
def yX0_clearCode : MethodName := ⟨RX0, "clearCode", "()Z"⟩
def RX1 : String := "TroubleCodes$Workshop"
def TX1 : u_T := fun k => match k with
  | 0 => ("TroubleCodes$Workshop", "causeChecks", "[I", true)
  | 1 => ("TroubleCodes$Workshop", "prices", "[I", true)
  | 2 => ("TroubleCodes$Workshop", "causeCount", "I", false)
  | 3 => ("TroubleCodes$Workshop", "madeBad", "[I", true)
  | 4 => ("TroubleCodes$Workshop", "least", "[I", true)
  | 5 => ("TroubleCodes$Workshop", "leastCount", "I", false)
  | 6 => ("TroubleCodes$Workshop", "holders", "[I", true)
  | 7 => ("TroubleCodes$Workshop", "sums", "[I", true)
  | 8 => ("TroubleCodes$Workshop", "firstTest", "I", false)
  | 9 => ("TroubleCodes$Workshop", "seenRan", "I", false)
  | 10 => ("TroubleCodes$Workshop", "seenSet", "I", false)
  | 11 => ("TroubleCodes$Workshop", "seenCauses", "I", false)
  | _ => ("TroubleCodes$Workshop", "planned", "Z", false)
def tyX1 : Nat → FieldType := fun k => match k with
  | 0 => .array .int
  | 1 => .array .int
  | 2 => .int
  | 3 => .array .int
  | 4 => .array .int
  | 5 => .int
  | 6 => .array .int
  | 7 => .array .int
  | 8 => .int
  | 9 => .int
  | 10 => .int
  | 11 => .int
  | _ => .boolean
abbrev wsX10 : List Cond := u_ws RX1 TX1 13
theorem nmX1 : ∀ a, a < 13 → ∀ b, b < 13 → a ≠ b → (TX1 a).2.1 ≠ (TX1 b).2.1 := by decide +kernel
theorem tyX1_ok : ∀ k, k < 13 → parseFieldDescriptor (TX1 k).2.2.1 = some (tyX1 k) := by decide +kernel
abbrev cX1_init : ByteArray := prog_3_method_1_code
def yX1_init : MethodName := ⟨RX1, "<init>", "()V"⟩
abbrev cX1_addCause : ByteArray := prog_3_method_2_code
def yX1_addCause : MethodName := ⟨RX1, "addCause", "(II)I"⟩
abbrev cX1_isExplainedBy : ByteArray := prog_3_method_3_code
def yX1_isExplainedBy : MethodName := ⟨RX1, "isExplainedBy", "(III)Z"⟩
abbrev cX1_look : ByteArray := prog_3_method_4_code
def yX1_look : MethodName := ⟨RX1, "look", "(II)V"⟩
abbrev cX1_findLeast : ByteArray := prog_3_method_5_code
def yX1_findLeast : MethodName := ⟨RX1, "findLeast", "()V"⟩
abbrev cX1_planSum : ByteArray := prog_3_method_6_code
def yX1_planSum : MethodName := ⟨RX1, "planSum", "()I"⟩
abbrev cX1_planTest : ByteArray := prog_3_method_7_code
def yX1_planTest : MethodName := ⟨RX1, "planTest", "()I"⟩
abbrev cX1_allLeast : ByteArray := prog_3_method_8_code
def yX1_allLeast : MethodName := ⟨RX1, "allLeast", "()I"⟩
abbrev cX1_makePlan : ByteArray := prog_3_method_9_code
def yX1_makePlan : MethodName := ⟨RX1, "makePlan", "()V"⟩
abbrev cX1_holdersOf : ByteArray := prog_3_method_10_code
def yX1_holdersOf : MethodName := ⟨RX1, "holdersOf", "(I)I"⟩
abbrev cX1_planFor : ByteArray := prog_3_method_11_code
def yX1_planFor : MethodName := ⟨RX1, "planFor", "(I)V"⟩
abbrev cX1_digestFrom : ByteArray := prog_3_method_12_code
def yX1_digestFrom : MethodName := ⟨RX1, "digestFrom", "(J)J"⟩
def RX2 : String := "TroubleCodes"
def TX2 : u_T := fun k => match k with
  | 0 => ("TroubleCodes", "checks", "[LTroubleCodes$Check;", true)
  | 1 => ("TroubleCodes", "checkCount", "I", false)
  | 2 => ("TroubleCodes", "facts", "[I", true)
  | 3 => ("TroubleCodes", "roomFor", "I", false)
  | 4 => ("TroubleCodes", "freezings", "I", false)
  | 5 => ("TroubleCodes", "drivesEnded", "I", false)
  | 6 => ("TroubleCodes", "driving", "Z", false)
  | 7 => ("TroubleCodes", "troubledAtBegin", "I", false)
  | _ => ("TroubleCodes", "workshop", "LTroubleCodes$Workshop;", true)
def tyX2 : Nat → FieldType := fun k => match k with
  | 0 => .array (.object "TroubleCodes$Check")
  | 1 => .int
  | 2 => .array .int
  | 3 => .int
  | 4 => .int
  | 5 => .int
  | 6 => .boolean
  | 7 => .int
  | _ => .object "TroubleCodes$Workshop"
abbrev wsX20 : List Cond := u_ws RX2 TX2 9
theorem nmX2 : ∀ a, a < 9 → ∀ b, b < 9 → a ≠ b → (TX2 a).2.1 ≠ (TX2 b).2.1 := by decide +kernel
theorem tyX2_ok : ∀ k, k < 9 → parseFieldDescriptor (TX2 k).2.2.1 = some (tyX2 k) := by decide +kernel
abbrev cX2_init : ByteArray := prog_1_method_1_code
def yX2_init : MethodName := ⟨RX2, "<init>", "()V"⟩
abbrev cX2_check : ByteArray := prog_1_method_2_code
def yX2_check : MethodName := ⟨RX2, "check", "(IIIIIIZ)I"⟩
abbrev cX2_begin : ByteArray := prog_1_method_3_code
def yX2_begin : MethodName := ⟨RX2, "begin", "()I"⟩
abbrev cX2_ran : ByteArray := prog_1_method_4_code
def yX2_ran : MethodName := ⟨RX2, "ran", "(IZ)I"⟩
abbrev cX2_end : ByteArray := prog_1_method_5_code
def yX2_end : MethodName := ⟨RX2, "end", "()I"⟩
abbrev cX2_fact : ByteArray := prog_1_method_6_code
def yX2_fact : MethodName := ⟨RX2, "fact", "(II)I"⟩
abbrev cX2_room : ByteArray := prog_1_method_7_code
def yX2_room : MethodName := ⟨RX2, "room", "(I)I"⟩
abbrev cX2_about : ByteArray := prog_1_method_8_code
def yX2_about : MethodName := ⟨RX2, "about", "(II)I"⟩
abbrev cX2_frozen : ByteArray := prog_1_method_9_code
def yX2_frozen : MethodName := ⟨RX2, "frozen", "(II)I"⟩
abbrev cX2_frozenAt : ByteArray := prog_1_method_10_code
def yX2_frozenAt : MethodName := ⟨RX2, "frozenAt", "(I)I"⟩
abbrev cX2_lamp : ByteArray := prog_1_method_11_code
def yX2_lamp : MethodName := ⟨RX2, "lamp", "()I"⟩
abbrev cX2_clear : ByteArray := prog_1_method_12_code
def yX2_clear : MethodName := ⟨RX2, "clear", "()I"⟩
abbrev cX2_cause : ByteArray := prog_1_method_13_code
def yX2_cause : MethodName := ⟨RX2, "cause", "(II)I"⟩
abbrev cX2_explains : ByteArray := prog_1_method_14_code
def yX2_explains : MethodName := ⟨RX2, "explains", "(I)I"⟩
abbrev cX2_least : ByteArray := prog_1_method_15_code
def yX2_least : MethodName := ⟨RX2, "least", "()I"⟩
abbrev cX2_leastAt : ByteArray := prog_1_method_16_code
def yX2_leastAt : MethodName := ⟨RX2, "leastAt", "(I)I"⟩
abbrev cX2_plan : ByteArray := prog_1_method_17_code
def yX2_plan : MethodName := ⟨RX2, "plan", "()I"⟩
abbrev cX2_test : ByteArray := prog_1_method_18_code
def yX2_test : MethodName := ⟨RX2, "test", "()I"⟩
abbrev cX2_foretells : ByteArray := prog_1_method_19_code
def yX2_foretells : MethodName := ⟨RX2, "foretells", "(II)I"⟩
abbrev cX2_sets : ByteArray := prog_1_method_20_code
def yX2_sets : MethodName := ⟨RX2, "sets", "(I)I"⟩
abbrev cX2_count : ByteArray := prog_1_method_21_code
def yX2_count : MethodName := ⟨RX2, "count", "(I)I"⟩
abbrev cX2_digest : ByteArray := prog_1_method_22_code
def yX2_digest : MethodName := ⟨RX2, "digest", "()J"⟩
abbrev cX2_digestOfCheck : ByteArray := prog_1_method_23_code
def yX2_digestOfCheck : MethodName := ⟨RX2, "digestOfCheck", "(JI)J"⟩
abbrev cX2_isWithin : ByteArray := prog_1_method_24_code
def yX2_isWithin : MethodName := ⟨RX2, "isWithin", "(III)Z"⟩
abbrev cX2_isBitsBelow : ByteArray := prog_1_method_25_code
def yX2_isBitsBelow : MethodName := ⟨RX2, "isBitsBelow", "(II)Z"⟩
abbrev cX2_asNumber : ByteArray := prog_1_method_26_code
def yX2_asNumber : MethodName := ⟨RX2, "asNumber", "(Z)I"⟩
abbrev cX2_checkAt : ByteArray := prog_1_method_27_code
def yX2_checkAt : MethodName := ⟨RX2, "checkAt", "(I)LTroubleCodes$Check;"⟩
abbrev cX2_isHeldBack : ByteArray := prog_1_method_28_code
def yX2_isHeldBack : MethodName := ⟨RX2, "isHeldBack", "(LTroubleCodes$Check;)Z"⟩
abbrev cX2_endFor : ByteArray := prog_1_method_29_code
def yX2_endFor : MethodName := ⟨RX2, "endFor", "(LTroubleCodes$Check;)Z"⟩
abbrev cX2_freeze : ByteArray := prog_1_method_30_code
def yX2_freeze : MethodName := ⟨RX2, "freeze", "(LTroubleCodes$Check;)V"⟩
abbrev cX2_frozenCount : ByteArray := prog_1_method_31_code
def yX2_frozenCount : MethodName := ⟨RX2, "frozenCount", "()I"⟩
abbrev cX2_leastFrozen : ByteArray := prog_1_method_32_code
def yX2_leastFrozen : MethodName := ⟨RX2, "leastFrozen", "()LTroubleCodes$Check;"⟩
abbrev cX2_codeBits : ByteArray := prog_1_method_33_code
def yX2_codeBits : MethodName := ⟨RX2, "codeBits", "(I)I"⟩
abbrev cX2_troubledBits : ByteArray := prog_1_method_34_code
def yX2_troubledBits : MethodName := ⟨RX2, "troubledBits", "()I"⟩
abbrev cX2_ranBits : ByteArray := prog_1_method_35_code
def yX2_ranBits : MethodName := ⟨RX2, "ranBits", "()I"⟩
abbrev cX2_lookAtCodes : ByteArray := prog_1_method_36_code
def yX2_lookAtCodes : MethodName := ⟨RX2, "lookAtCodes", "()V"⟩
def RX3 : String := "TroubleCodesModel"
def TX3 : u_T := fun k => match k with
  | 0 => ("TroubleCodesModel", "checks", "I", false)
  | 1 => ("TroubleCodesModel", "sort", "[I", true)
  | 2 => ("TroubleCodesModel", "follows", "[I", true)
  | 3 => ("TroubleCodesModel", "badAt", "[I", true)
  | 4 => ("TroubleCodesModel", "goodAt", "[I", true)
  | 5 => ("TroubleCodesModel", "ageAt", "[I", true)
  | 6 => ("TroubleCodesModel", "weight", "[I", true)
  | 7 => ("TroubleCodesModel", "hasLamp", "[Z", true)
  | 8 => ("TroubleCodesModel", "code", "[I", true)
  | 9 => ("TroubleCodesModel", "bads", "[I", true)
  | 10 => ("TroubleCodesModel", "goods", "[I", true)
  | 11 => ("TroubleCodesModel", "age", "[I", true)
  | 12 => ("TroubleCodesModel", "hasRun", "[Z", true)
  | 13 => ("TroubleCodesModel", "begun", "[I", true)
  | 14 => ("TroubleCodesModel", "told", "[I", true)
  | 15 => ("TroubleCodesModel", "sets", "[I", true)
  | 16 => ("TroubleCodesModel", "foretold", "[I", true)
  | 17 => ("TroubleCodesModel", "goes", "Z", false)
  | 18 => ("TroubleCodesModel", "drives", "I", false)
  | 19 => ("TroubleCodesModel", "fact", "[I", true)
  | 20 => ("TroubleCodesModel", "room", "I", false)
  | 21 => ("TroubleCodesModel", "isFrozen", "[Z", true)
  | 22 => ("TroubleCodesModel", "frozenFact", "[I", true)
  | 23 => ("TroubleCodesModel", "frozenDrive", "[I", true)
  | 24 => ("TroubleCodesModel", "frozenTurn", "[I", true)
  | 25 => ("TroubleCodesModel", "turns", "I", false)
  | 26 => ("TroubleCodesModel", "causes", "I", false)
  | 27 => ("TroubleCodesModel", "makes", "[I", true)
  | 28 => ("TroubleCodesModel", "price", "[I", true)
  | 29 => ("TroubleCodesModel", "listed", "I", false)
  | 30 => ("TroubleCodesModel", "list", "[I", true)
  | 31 => ("TroubleCodesModel", "sum", "[I", true)
  | _ => ("TroubleCodesModel", "first", "[I", true)
def tyX3 : Nat → FieldType := fun k => match k with
  | 0 => .int
  | 1 => .array .int
  | 2 => .array .int
  | 3 => .array .int
  | 4 => .array .int
  | 5 => .array .int
  | 6 => .array .int
  | 7 => .array .boolean
  | 8 => .array .int
  | 9 => .array .int
  | 10 => .array .int
  | 11 => .array .int
  | 12 => .array .boolean
  | 13 => .array .int
  | 14 => .array .int
  | 15 => .array .int
  | 16 => .array .int
  | 17 => .boolean
  | 18 => .int
  | 19 => .array .int
  | 20 => .int
  | 21 => .array .boolean
  | 22 => .array .int
  | 23 => .array .int
  | 24 => .array .int
  | 25 => .int
  | 26 => .int
  | 27 => .array .int
  | 28 => .array .int
  | 29 => .int
  | 30 => .array .int
  | 31 => .array .int
  | _ => .array .int
abbrev wsX30 : List Cond := u_ws RX3 TX3 33
theorem nmX3 : ∀ a, a < 33 → ∀ b, b < 33 → a ≠ b → (TX3 a).2.1 ≠ (TX3 b).2.1 := by decide +kernel
theorem tyX3_ok : ∀ k, k < 33 → parseFieldDescriptor (TX3 k).2.2.1 = some (tyX3 k) := by decide +kernel
abbrev cX3_init : ByteArray := prog_5_method_1_code
def yX3_init : MethodName := ⟨RX3, "<init>", "()V"⟩
abbrev cX3_in : ByteArray := prog_5_method_3_code
def yX3_in : MethodName := ⟨RX3, "in", "(III)Z"⟩
abbrev cX3_isCheck : ByteArray := prog_5_method_4_code
def yX3_isCheck : MethodName := ⟨RX3, "isCheck", "(I)Z"⟩
abbrev cX3_check : ByteArray := prog_5_method_5_code
def yX3_check : MethodName := ⟨RX3, "check", "(IIIIIIZ)I"⟩
abbrev cX3_begin : ByteArray := prog_5_method_6_code
def yX3_begin : MethodName := ⟨RX3, "begin", "()I"⟩
abbrev cX3_ran : ByteArray := prog_5_method_7_code
def yX3_ran : MethodName := ⟨RX3, "ran", "(IZ)I"⟩
abbrev cX3_isHeld : ByteArray := prog_5_method_8_code
def yX3_isHeld : MethodName := ⟨RX3, "isHeld", "(I)Z"⟩
abbrev cX3_manyFrozen : ByteArray := prog_5_method_9_code
def yX3_manyFrozen : MethodName := ⟨RX3, "manyFrozen", "()I"⟩
abbrev cX3_leastFrozen : ByteArray := prog_5_method_10_code
def yX3_leastFrozen : MethodName := ⟨RX3, "leastFrozen", "()I"⟩
abbrev cX3_freezes : ByteArray := prog_5_method_11_code
def yX3_freezes : MethodName := ⟨RX3, "freezes", "(I)V"⟩
abbrev cX3_room : ByteArray := prog_5_method_12_code
def yX3_room : MethodName := ⟨RX3, "room", "(I)I"⟩
abbrev cX3_wasBad : ByteArray := prog_5_method_13_code
def yX3_wasBad : MethodName := ⟨RX3, "wasBad", "(I)V"⟩
abbrev cX3_wasGood : ByteArray := prog_5_method_14_code
def yX3_wasGood : MethodName := ⟨RX3, "wasGood", "(I)V"⟩
abbrev cX3_ages : ByteArray := prog_5_method_15_code
def yX3_ages : MethodName := ⟨RX3, "ages", "(I)V"⟩
abbrev cX3_end : ByteArray := prog_5_method_16_code
def yX3_end : MethodName := ⟨RX3, "end", "()I"⟩
abbrev cX3_fact : ByteArray := prog_5_method_17_code
def yX3_fact : MethodName := ⟨RX3, "fact", "(II)I"⟩
abbrev cX3_aboutOf : ByteArray := prog_5_method_18_code
def yX3_aboutOf : MethodName := ⟨RX3, "aboutOf", "(II)I"⟩
abbrev cX3_about : ByteArray := prog_5_method_19_code
def yX3_about : MethodName := ⟨RX3, "about", "(II)I"⟩
abbrev cX3_frozen : ByteArray := prog_5_method_20_code
def yX3_frozen : MethodName := ⟨RX3, "frozen", "(II)I"⟩
abbrev cX3_frozenAt : ByteArray := prog_5_method_21_code
def yX3_frozenAt : MethodName := ⟨RX3, "frozenAt", "(I)I"⟩
abbrev cX3_lamp : ByteArray := prog_5_method_22_code
def yX3_lamp : MethodName := ⟨RX3, "lamp", "()I"⟩
abbrev cX3_clear : ByteArray := prog_5_method_23_code
def yX3_clear : MethodName := ⟨RX3, "clear", "()I"⟩
abbrev cX3_cause : ByteArray := prog_5_method_24_code
def yX3_cause : MethodName := ⟨RX3, "cause", "(II)I"⟩
abbrev cX3_doesExplain : ByteArray := prog_5_method_25_code
def yX3_doesExplain : MethodName := ⟨RX3, "doesExplain", "(I)Z"⟩
abbrev cX3_explains : ByteArray := prog_5_method_26_code
def yX3_explains : MethodName := ⟨RX3, "explains", "(I)I"⟩
abbrev cX3_many : ByteArray := prog_5_method_27_code
def yX3_many : MethodName := ⟨RX3, "many", "(I)I"⟩
abbrev cX3_findLeast : ByteArray := prog_5_method_28_code
def yX3_findLeast : MethodName := ⟨RX3, "findLeast", "()V"⟩
abbrev cX3_least : ByteArray := prog_5_method_29_code
def yX3_least : MethodName := ⟨RX3, "least", "()I"⟩
abbrev cX3_leastAt : ByteArray := prog_5_method_30_code
def yX3_leastAt : MethodName := ⟨RX3, "leastAt", "(I)I"⟩
abbrev cX3_with : ByteArray := prog_5_method_31_code
def yX3_with : MethodName := ⟨RX3, "with", "(II)I"⟩
abbrev cX3_plans : ByteArray := prog_5_method_32_code
def yX3_plans : MethodName := ⟨RX3, "plans", "()V"⟩
abbrev cX3_plan : ByteArray := prog_5_method_33_code
def yX3_plan : MethodName := ⟨RX3, "plan", "()I"⟩
abbrev cX3_test : ByteArray := prog_5_method_34_code
def yX3_test : MethodName := ⟨RX3, "test", "()I"⟩
abbrev cX3_foretells : ByteArray := prog_5_method_35_code
def yX3_foretells : MethodName := ⟨RX3, "foretells", "(II)I"⟩
abbrev cX3_sets : ByteArray := prog_5_method_36_code
def yX3_sets : MethodName := ⟨RX3, "sets", "(I)I"⟩
abbrev cX3_manyOf : ByteArray := prog_5_method_37_code
def yX3_manyOf : MethodName := ⟨RX3, "manyOf", "(I)I"⟩
abbrev cX3_count : ByteArray := prog_5_method_38_code
def yX3_count : MethodName := ⟨RX3, "count", "(I)I"⟩
abbrev cX3_digest : ByteArray := prog_5_method_39_code
def yX3_digest : MethodName := ⟨RX3, "digest", "()J"⟩
def RJ6 : String := "java/lang/Integer"
def TJ6 : u_T := fun k => match k with
  | _ => ("", "", "", false)
def tyJ6 : Nat → FieldType := fun k => match k with
  | _ => .int
abbrev wsJ60 : List Cond := u_ws RJ6 TJ6 0
theorem nmJ6 : ∀ a, a < 0 → ∀ b, b < 0 → a ≠ b → (TJ6 a).2.1 ≠ (TJ6 b).2.1 := by decide +kernel
theorem tyJ6_ok : ∀ k, k < 0 → parseFieldDescriptor (TJ6 k).2.2.1 = some (tyJ6 k) := by decide +kernel
abbrev cJ6_bitCount_0f7a4 : ByteArray := prog_6_method_49_code
def yJ6_bitCount_0f7a4 : MethodName := ⟨RJ6, "bitCount", "(I)I"⟩
def RJ10 : String := "java/lang/System"
def TJ10 : u_T := fun k => match k with
  | _ => ("", "", "", false)
def tyJ10 : Nat → FieldType := fun k => match k with
  | _ => .int
abbrev wsJ100 : List Cond := u_ws RJ10 TJ10 0
theorem nmJ10 : ∀ a, a < 0 → ∀ b, b < 0 → a ≠ b → (TJ10 a).2.1 ≠ (TJ10 b).2.1 := by decide +kernel
theorem tyJ10_ok : ∀ k, k < 0 → parseFieldDescriptor (TJ10 k).2.2.1 = some (tyJ10 k) := by decide +kernel
def RL : String := "TroubleCodesLaw"
abbrev cL_law : ByteArray := code
def yL_law : MethodName := ⟨RL, "law", "([I)Z"⟩
def wsX0_init : List Cond := .code yX0_init cX0_init 8 none :: ([.methodLink RX0 3 objectInit, .instanceMethod objectInit, .code objectInit ⟨#[0xb1]⟩ 1 none, .fieldLink RX0 11 "TroubleCodes$Check" "code" "I", .fieldLink RX0 15 "TroubleCodes$Check" "badCount" "I", .fieldLink RX0 18 "TroubleCodes$Check" "goodCount" "I", .fieldLink RX0 21 "TroubleCodes$Check" "age" "I", .fieldLink RX0 24 "TroubleCodes$Check" "told" "I", .fieldLink RX0 27 "TroubleCodes$Check" "ranSinceCleared" "Z", .fieldLink RX0 31 "TroubleCodes$Check" "frozenDrive" "I", .fieldLink RX0 34 "TroubleCodes$Check" "frozenOrder" "I", .arrayClass .int, .fieldLink RX0 37 "TroubleCodes$Check" "frozenFacts" "[I", .fieldLink RX0 41 "TroubleCodes$Check" "setDrives" "I", .fieldLink RX0 44 "TroubleCodes$Check" "foretoldBy" "[I", .fieldLink RX0 47 "TroubleCodes$Check" "sort" "I", .fieldLink RX0 50 "TroubleCodes$Check" "follows" "I", .fieldLink RX0 53 "TroubleCodes$Check" "badLimit" "I", .fieldLink RX0 56 "TroubleCodes$Check" "goodLimit" "I", .fieldLink RX0 59 "TroubleCodes$Check" "ageLimit" "I", .fieldLink RX0 62 "TroubleCodes$Check" "weight" "I", .fieldLink RX0 65 "TroubleCodes$Check" "lamp" "Z"] ++ wsX00)
def wsX0_isPermanent : List Cond := .code yX0_isPermanent cX0_isPermanent 1 (some .boolean) :: ([.fieldLink RX0 47 "TroubleCodes$Check" "sort" "I"] ++ wsX00)
def wsX0_isTroubled : List Cond := .code yX0_isTroubled cX0_isTroubled 1 (some .boolean) :: ([.fieldLink RX0 11 "TroubleCodes$Check" "code" "I"] ++ wsX00)
def wsX0_isFrozen : List Cond := .code yX0_isFrozen cX0_isFrozen 1 (some .boolean) :: ([.fieldLink RX0 31 "TroubleCodes$Check" "frozenDrive" "I"] ++ wsX00)
def wsX2_asNumber : List Cond := .code yX2_asNumber cX2_asNumber 1 (some .int) :: ([])
def wsX0_numberOf : List Cond := .code yX0_numberOf cX0_numberOf 2 (some .int) :: ([.fieldLink RX0 11 "TroubleCodes$Check" "code" "I", .fieldLink RX0 15 "TroubleCodes$Check" "badCount" "I", .fieldLink RX0 18 "TroubleCodes$Check" "goodCount" "I", .fieldLink RX0 21 "TroubleCodes$Check" "age" "I", .fieldLink RX0 27 "TroubleCodes$Check" "ranSinceCleared" "Z", .fieldLink RX0 47 "TroubleCodes$Check" "sort" "I", .methodLink RX0 68 yX0_isFrozen, .instanceMethod yX0_isFrozen, .selects RX0 yX0_isFrozen yX0_isFrozen, .initialized RX0, .code yX0_isFrozen cX0_isFrozen 1 (some .boolean), .fieldLink RX0 31 "TroubleCodes$Check" "frozenDrive" "I", .static yX2_asNumber, .initialized RX2, .code yX2_asNumber cX2_asNumber 1 (some .int)] ++ wsX00)
def wsX0_tell : List Cond := .code yX0_tell cX0_tell 2 none :: ([.fieldLink RX0 24 "TroubleCodes$Check" "told" "I"] ++ wsX00)
def wsX0_countBad : List Cond := .code yX0_countBad cX0_countBad 3 (some .boolean) :: ([.fieldLink RX0 18 "TroubleCodes$Check" "goodCount" "I", .fieldLink RX0 21 "TroubleCodes$Check" "age" "I", .fieldLink RX0 15 "TroubleCodes$Check" "badCount" "I", .fieldLink RX0 11 "TroubleCodes$Check" "code" "I", .fieldLink RX0 53 "TroubleCodes$Check" "badLimit" "I"] ++ wsX00)
def wsX0_countGood : List Cond := .code yX0_countGood cX0_countGood 1 none :: ([.fieldLink RX0 15 "TroubleCodes$Check" "badCount" "I", .fieldLink RX0 18 "TroubleCodes$Check" "goodCount" "I", .fieldLink RX0 11 "TroubleCodes$Check" "code" "I", .fieldLink RX0 56 "TroubleCodes$Check" "goodLimit" "I", .fieldLink RX0 21 "TroubleCodes$Check" "age" "I"] ++ wsX00)
def wsX0_thaw : List Cond := .code yX0_thaw cX0_thaw 1 none :: ([.fieldLink RX0 31 "TroubleCodes$Check" "frozenDrive" "I"] ++ wsX00)
def wsX0_growOlder : List Cond := .code yX0_growOlder cX0_growOlder 1 none :: ([.fieldLink RX0 21 "TroubleCodes$Check" "age" "I", .fieldLink RX0 59 "TroubleCodes$Check" "ageLimit" "I", .fieldLink RX0 11 "TroubleCodes$Check" "code" "I", .methodLink RX0 86 yX0_thaw, .instanceMethod yX0_thaw, .selects RX0 yX0_thaw yX0_thaw, .initialized RX0, .code yX0_thaw cX0_thaw 1 none, .fieldLink RX0 31 "TroubleCodes$Check" "frozenDrive" "I"] ++ wsX00)
def wsX0_countDrive_r1 : List Cond := [Cond.fieldLink RX0 24 "TroubleCodes$Check" "told" "I", Cond.fieldLink RX0 11 "TroubleCodes$Check" "code" "I", Cond.fieldLink RX0 27 "TroubleCodes$Check" "ranSinceCleared" "Z", Cond.methodLink RX0 76 yX0_countBad, Cond.instanceMethod yX0_countBad, Cond.selects RX0 yX0_countBad yX0_countBad, Cond.initialized RX0, Cond.code yX0_countBad cX0_countBad 3 (some .boolean), Cond.fieldLink RX0 18 "TroubleCodes$Check" "goodCount" "I", Cond.fieldLink RX0 21 "TroubleCodes$Check" "age" "I", Cond.fieldLink RX0 15 "TroubleCodes$Check" "badCount" "I", Cond.fieldLink RX0 53 "TroubleCodes$Check" "badLimit" "I", Cond.methodLink RX0 80 yX0_countGood, Cond.instanceMethod yX0_countGood, Cond.selects RX0 yX0_countGood yX0_countGood, Cond.code yX0_countGood cX0_countGood 1 none, Cond.fieldLink RX0 56 "TroubleCodes$Check" "goodLimit" "I", Cond.methodLink RX0 83 yX0_growOlder, Cond.instanceMethod yX0_growOlder, Cond.selects RX0 yX0_growOlder yX0_growOlder, Cond.code yX0_growOlder cX0_growOlder 1 none, Cond.fieldLink RX0 59 "TroubleCodes$Check" "ageLimit" "I", Cond.methodLink RX0 86 yX0_thaw, Cond.instanceMethod yX0_thaw]
def wsX0_countDrive_r2 : List Cond := [Cond.selects RX0 yX0_thaw yX0_thaw, Cond.code yX0_thaw cX0_thaw 1 none, Cond.fieldLink RX0 31 "TroubleCodes$Check" "frozenDrive" "I"]
def wsX0_countDrive : List Cond := .code yX0_countDrive cX0_countDrive 3 (some .boolean) :: ((wsX0_countDrive_r1 ++ wsX0_countDrive_r2) ++ wsX00)
def wsX0_noteSet : List Cond := .code yX0_noteSet cX0_noteSet 3 none :: ([.fieldLink RX0 41 "TroubleCodes$Check" "setDrives" "I", .fieldLink RX0 44 "TroubleCodes$Check" "foretoldBy" "[I"] ++ wsX00)
def wsX0_freeze : List Cond := .code yX0_freeze cX0_freeze 4 none :: ([.fieldLink RX0 37 "TroubleCodes$Check" "frozenFacts" "[I", .methodLink RX0 89 arraycopyName, .native arraycopyName, .static arraycopyName, .initialized "java/lang/System", .fieldLink RX0 31 "TroubleCodes$Check" "frozenDrive" "I", .fieldLink RX0 34 "TroubleCodes$Check" "frozenOrder" "I"] ++ wsX00)
def wsX0_goesAheadOf : List Cond := .code yX0_goesAheadOf cX0_goesAheadOf 2 (some .boolean) :: ([.fieldLink RX0 62 "TroubleCodes$Check" "weight" "I", .fieldLink RX0 34 "TroubleCodes$Check" "frozenOrder" "I"] ++ wsX00)
def wsX0_clearCode : List Cond := .code yX0_clearCode cX0_clearCode 2 (some .boolean) :: ([.fieldLink RX0 15 "TroubleCodes$Check" "badCount" "I", .fieldLink RX0 18 "TroubleCodes$Check" "goodCount" "I", .fieldLink RX0 21 "TroubleCodes$Check" "age" "I", .fieldLink RX0 27 "TroubleCodes$Check" "ranSinceCleared" "Z", .fieldLink RX0 11 "TroubleCodes$Check" "code" "I", .methodLink RX0 95 yX0_isPermanent, .instanceMethod yX0_isPermanent, .selects RX0 yX0_isPermanent yX0_isPermanent, .initialized RX0, .code yX0_isPermanent cX0_isPermanent 1 (some .boolean), .fieldLink RX0 47 "TroubleCodes$Check" "sort" "I", .methodLink RX0 86 yX0_thaw, .instanceMethod yX0_thaw, .selects RX0 yX0_thaw yX0_thaw, .code yX0_thaw cX0_thaw 1 none, .fieldLink RX0 31 "TroubleCodes$Check" "frozenDrive" "I"] ++ wsX00)
def wsX1_init : List Cond := .code yX1_init cX1_init 1 none :: ([.methodLink RX1 3 objectInit, .instanceMethod objectInit, .code objectInit ⟨#[0xb1]⟩ 1 none, .arrayClass .int, .fieldLink RX1 11 "TroubleCodes$Workshop" "causeChecks" "[I", .fieldLink RX1 15 "TroubleCodes$Workshop" "prices" "[I", .fieldLink RX1 18 "TroubleCodes$Workshop" "causeCount" "I", .fieldLink RX1 22 "TroubleCodes$Workshop" "madeBad" "[I", .fieldLink RX1 25 "TroubleCodes$Workshop" "least" "[I", .fieldLink RX1 28 "TroubleCodes$Workshop" "leastCount" "I", .fieldLink RX1 31 "TroubleCodes$Workshop" "holders" "[I", .fieldLink RX1 34 "TroubleCodes$Workshop" "sums" "[I", .fieldLink RX1 37 "TroubleCodes$Workshop" "firstTest" "I", .fieldLink RX1 40 "TroubleCodes$Workshop" "seenRan" "I", .fieldLink RX1 43 "TroubleCodes$Workshop" "seenSet" "I", .fieldLink RX1 46 "TroubleCodes$Workshop" "seenCauses" "I", .fieldLink RX1 49 "TroubleCodes$Workshop" "planned" "Z"] ++ wsX10)
def wsX1_addCause : List Cond := .code yX1_addCause cX1_addCause 5 (some .int) :: ([.fieldLink RX1 18 "TroubleCodes$Workshop" "causeCount" "I", .fieldLink RX1 11 "TroubleCodes$Workshop" "causeChecks" "[I", .fieldLink RX1 15 "TroubleCodes$Workshop" "prices" "[I", .fieldLink RX1 22 "TroubleCodes$Workshop" "madeBad" "[I"] ++ wsX10)
def wsX1_isExplainedBy : List Cond := .code yX1_isExplainedBy cX1_isExplainedBy 4 (some .boolean) :: ([.fieldLink RX1 22 "TroubleCodes$Workshop" "madeBad" "[I"] ++ wsX10)
def wsJ6_bitCount_0f7a4 : List Cond := .code yJ6_bitCount_0f7a4 cJ6_bitCount_0f7a4 1 (some .int) :: ([.constant RJ6 265 (1431655765), .constant RJ6 266 (858993459), .constant RJ6 267 (252645135)])
def wsX1_findLeast : List Cond := .code yX1_findLeast cX1_findLeast 4 none :: ([.fieldLink RX1 28 "TroubleCodes$Workshop" "leastCount" "I", .fieldLink RX1 18 "TroubleCodes$Workshop" "causeCount" "I", .fieldLink RX1 40 "TroubleCodes$Workshop" "seenRan" "I", .fieldLink RX1 43 "TroubleCodes$Workshop" "seenSet" "I", .fieldLink RX1 25 "TroubleCodes$Workshop" "least" "[I", .methodLink RX1 56 yJ6_bitCount_0f7a4, .static yJ6_bitCount_0f7a4, .initialized RJ6, .code yJ6_bitCount_0f7a4 cJ6_bitCount_0f7a4 1 (some .int), .constant RJ6 265 (1431655765), .constant RJ6 266 (858993459), .constant RJ6 267 (252645135), .methodLink RX1 62 yX1_isExplainedBy, .instanceMethod yX1_isExplainedBy, .selects RX1 yX1_isExplainedBy yX1_isExplainedBy, .initialized RX1, .code yX1_isExplainedBy cX1_isExplainedBy 4 (some .boolean), .fieldLink RX1 22 "TroubleCodes$Workshop" "madeBad" "[I"] ++ wsX10)
def wsX1_look : List Cond := .code yX1_look cX1_look 3 none :: ([.fieldLink RX1 40 "TroubleCodes$Workshop" "seenRan" "I", .fieldLink RX1 43 "TroubleCodes$Workshop" "seenSet" "I", .fieldLink RX1 18 "TroubleCodes$Workshop" "causeCount" "I", .fieldLink RX1 46 "TroubleCodes$Workshop" "seenCauses" "I", .fieldLink RX1 49 "TroubleCodes$Workshop" "planned" "Z", .methodLink RX1 53 yX1_findLeast, .instanceMethod yX1_findLeast, .selects RX1 yX1_findLeast yX1_findLeast, .initialized RX1, .code yX1_findLeast cX1_findLeast 4 none, .fieldLink RX1 28 "TroubleCodes$Workshop" "leastCount" "I", .fieldLink RX1 25 "TroubleCodes$Workshop" "least" "[I", .methodLink RX1 56 yJ6_bitCount_0f7a4, .static yJ6_bitCount_0f7a4, .initialized RJ6, .code yJ6_bitCount_0f7a4 cJ6_bitCount_0f7a4 1 (some .int), .constant RJ6 265 (1431655765), .constant RJ6 266 (858993459), .constant RJ6 267 (252645135), .methodLink RX1 62 yX1_isExplainedBy, .instanceMethod yX1_isExplainedBy, .selects RX1 yX1_isExplainedBy yX1_isExplainedBy, .code yX1_isExplainedBy cX1_isExplainedBy 4 (some .boolean), .fieldLink RX1 22 "TroubleCodes$Workshop" "madeBad" "[I"] ++ wsX10)
def wsX1_holdersOf : List Cond := .code yX1_holdersOf cX1_holdersOf 4 (some .int) :: ([.fieldLink RX1 28 "TroubleCodes$Workshop" "leastCount" "I", .fieldLink RX1 25 "TroubleCodes$Workshop" "least" "[I"] ++ wsX10)
def wsX1_allLeast : List Cond := .code yX1_allLeast cX1_allLeast 1 (some .int) :: ([.fieldLink RX1 28 "TroubleCodes$Workshop" "leastCount" "I"] ++ wsX10)
def wsX1_planFor : List Cond := .code yX1_planFor cX1_planFor 6 none :: ([.fieldLink RX1 37 "TroubleCodes$Workshop" "firstTest" "I", .fieldLink RX1 18 "TroubleCodes$Workshop" "causeCount" "I", .fieldLink RX1 31 "TroubleCodes$Workshop" "holders" "[I", .fieldLink RX1 15 "TroubleCodes$Workshop" "prices" "[I", .fieldLink RX1 34 "TroubleCodes$Workshop" "sums" "[I", .methodLink RX1 56 yJ6_bitCount_0f7a4, .static yJ6_bitCount_0f7a4, .initialized RJ6, .code yJ6_bitCount_0f7a4 cJ6_bitCount_0f7a4 1 (some .int), .constant RJ6 265 (1431655765), .constant RJ6 266 (858993459), .constant RJ6 267 (252645135)] ++ wsX10)
def wsX1_makePlan_r1 : List Cond := [Cond.fieldLink RX1 49 "TroubleCodes$Workshop" "planned" "Z", Cond.fieldLink RX1 18 "TroubleCodes$Workshop" "causeCount" "I", Cond.fieldLink RX1 31 "TroubleCodes$Workshop" "holders" "[I", Cond.methodLink RX1 73 yX1_holdersOf, Cond.instanceMethod yX1_holdersOf, Cond.selects RX1 yX1_holdersOf yX1_holdersOf, Cond.initialized RX1, Cond.code yX1_holdersOf cX1_holdersOf 4 (some .int), Cond.fieldLink RX1 28 "TroubleCodes$Workshop" "leastCount" "I", Cond.fieldLink RX1 25 "TroubleCodes$Workshop" "least" "[I", Cond.methodLink RX1 69 yX1_allLeast, Cond.instanceMethod yX1_allLeast, Cond.selects RX1 yX1_allLeast yX1_allLeast, Cond.code yX1_allLeast cX1_allLeast 1 (some .int), Cond.methodLink RX1 76 yX1_planFor, Cond.instanceMethod yX1_planFor, Cond.selects RX1 yX1_planFor yX1_planFor, Cond.code yX1_planFor cX1_planFor 6 none, Cond.fieldLink RX1 37 "TroubleCodes$Workshop" "firstTest" "I", Cond.fieldLink RX1 15 "TroubleCodes$Workshop" "prices" "[I", Cond.fieldLink RX1 34 "TroubleCodes$Workshop" "sums" "[I", Cond.methodLink RX1 56 yJ6_bitCount_0f7a4, Cond.static yJ6_bitCount_0f7a4, Cond.initialized RJ6]
def wsX1_makePlan_r2 : List Cond := [Cond.code yJ6_bitCount_0f7a4 cJ6_bitCount_0f7a4 1 (some .int), Cond.constant RJ6 265 (1431655765), Cond.constant RJ6 266 (858993459), Cond.constant RJ6 267 (252645135)]
def wsX1_makePlan : List Cond := .code yX1_makePlan cX1_makePlan 2 none :: ((wsX1_makePlan_r1 ++ wsX1_makePlan_r2) ++ wsX10)
def wsX1_planSum_r1 : List Cond := [Cond.fieldLink RX1 28 "TroubleCodes$Workshop" "leastCount" "I", Cond.fieldLink RX1 34 "TroubleCodes$Workshop" "sums" "[I", Cond.methodLink RX1 66 yX1_makePlan, Cond.instanceMethod yX1_makePlan, Cond.selects RX1 yX1_makePlan yX1_makePlan, Cond.initialized RX1, Cond.code yX1_makePlan cX1_makePlan 2 none, Cond.fieldLink RX1 49 "TroubleCodes$Workshop" "planned" "Z", Cond.fieldLink RX1 18 "TroubleCodes$Workshop" "causeCount" "I", Cond.fieldLink RX1 31 "TroubleCodes$Workshop" "holders" "[I", Cond.methodLink RX1 73 yX1_holdersOf, Cond.instanceMethod yX1_holdersOf, Cond.selects RX1 yX1_holdersOf yX1_holdersOf, Cond.code yX1_holdersOf cX1_holdersOf 4 (some .int), Cond.fieldLink RX1 25 "TroubleCodes$Workshop" "least" "[I", Cond.methodLink RX1 69 yX1_allLeast, Cond.instanceMethod yX1_allLeast, Cond.selects RX1 yX1_allLeast yX1_allLeast, Cond.code yX1_allLeast cX1_allLeast 1 (some .int), Cond.methodLink RX1 76 yX1_planFor, Cond.instanceMethod yX1_planFor, Cond.selects RX1 yX1_planFor yX1_planFor, Cond.code yX1_planFor cX1_planFor 6 none, Cond.fieldLink RX1 37 "TroubleCodes$Workshop" "firstTest" "I"]
def wsX1_planSum_r2 : List Cond := [Cond.fieldLink RX1 15 "TroubleCodes$Workshop" "prices" "[I", Cond.methodLink RX1 56 yJ6_bitCount_0f7a4, Cond.static yJ6_bitCount_0f7a4, Cond.initialized RJ6, Cond.code yJ6_bitCount_0f7a4 cJ6_bitCount_0f7a4 1 (some .int), Cond.constant RJ6 265 (1431655765), Cond.constant RJ6 266 (858993459), Cond.constant RJ6 267 (252645135)]
def wsX1_planSum : List Cond := .code yX1_planSum cX1_planSum 1 (some .int) :: ((wsX1_planSum_r1 ++ wsX1_planSum_r2) ++ wsX10)
def wsX1_planTest_r1 : List Cond := [Cond.fieldLink RX1 28 "TroubleCodes$Workshop" "leastCount" "I", Cond.fieldLink RX1 37 "TroubleCodes$Workshop" "firstTest" "I", Cond.methodLink RX1 66 yX1_makePlan, Cond.instanceMethod yX1_makePlan, Cond.selects RX1 yX1_makePlan yX1_makePlan, Cond.initialized RX1, Cond.code yX1_makePlan cX1_makePlan 2 none, Cond.fieldLink RX1 49 "TroubleCodes$Workshop" "planned" "Z", Cond.fieldLink RX1 18 "TroubleCodes$Workshop" "causeCount" "I", Cond.fieldLink RX1 31 "TroubleCodes$Workshop" "holders" "[I", Cond.methodLink RX1 73 yX1_holdersOf, Cond.instanceMethod yX1_holdersOf, Cond.selects RX1 yX1_holdersOf yX1_holdersOf, Cond.code yX1_holdersOf cX1_holdersOf 4 (some .int), Cond.fieldLink RX1 25 "TroubleCodes$Workshop" "least" "[I", Cond.methodLink RX1 69 yX1_allLeast, Cond.instanceMethod yX1_allLeast, Cond.selects RX1 yX1_allLeast yX1_allLeast, Cond.code yX1_allLeast cX1_allLeast 1 (some .int), Cond.methodLink RX1 76 yX1_planFor, Cond.instanceMethod yX1_planFor, Cond.selects RX1 yX1_planFor yX1_planFor, Cond.code yX1_planFor cX1_planFor 6 none, Cond.fieldLink RX1 15 "TroubleCodes$Workshop" "prices" "[I"]
def wsX1_planTest_r2 : List Cond := [Cond.fieldLink RX1 34 "TroubleCodes$Workshop" "sums" "[I", Cond.methodLink RX1 56 yJ6_bitCount_0f7a4, Cond.static yJ6_bitCount_0f7a4, Cond.initialized RJ6, Cond.code yJ6_bitCount_0f7a4 cJ6_bitCount_0f7a4 1 (some .int), Cond.constant RJ6 265 (1431655765), Cond.constant RJ6 266 (858993459), Cond.constant RJ6 267 (252645135)]
def wsX1_planTest : List Cond := .code yX1_planTest cX1_planTest 1 (some .int) :: ((wsX1_planTest_r1 ++ wsX1_planTest_r2) ++ wsX10)
def wsX1_digestFrom : List Cond := .code yX1_digestFrom cX1_digestFrom 6 (some .long) :: ([.fieldLink RX1 18 "TroubleCodes$Workshop" "causeCount" "I", .constantLong RX1 80 (31), .fieldLink RX1 11 "TroubleCodes$Workshop" "causeChecks" "[I", .fieldLink RX1 15 "TroubleCodes$Workshop" "prices" "[I"] ++ wsX10)
def wsX2_init_r1 : List Cond := [Cond.methodLink RX2 1 objectInit, Cond.instanceMethod objectInit, Cond.code objectInit ⟨#[0xb1]⟩ 1 none, Cond.classLink RX2 9 RX0, Cond.fieldLink RX2 11 "TroubleCodes" "checks" "[LTroubleCodes$Check;", Cond.fieldLink RX2 15 "TroubleCodes" "checkCount" "I", Cond.arrayClass .int, Cond.fieldLink RX2 19 "TroubleCodes" "facts" "[I", Cond.fieldLink RX2 23 "TroubleCodes" "roomFor" "I", Cond.fieldLink RX2 26 "TroubleCodes" "freezings" "I", Cond.fieldLink RX2 29 "TroubleCodes" "drivesEnded" "I", Cond.fieldLink RX2 32 "TroubleCodes" "driving" "Z", Cond.fieldLink RX2 36 "TroubleCodes" "troubledAtBegin" "I", Cond.classLink RX2 39 RX1, Cond.instantiable RX1 13, Cond.initialized RX1, Cond.fieldLink RX2 42 "TroubleCodes" "workshop" "LTroubleCodes$Workshop;", Cond.instanceMethod yX1_init, Cond.code yX1_init cX1_init 1 none, Cond.methodLink RX1 3 objectInit, Cond.fieldLink RX1 11 "TroubleCodes$Workshop" "causeChecks" "[I", Cond.fieldLink RX1 15 "TroubleCodes$Workshop" "prices" "[I", Cond.fieldLink RX1 18 "TroubleCodes$Workshop" "causeCount" "I", Cond.fieldLink RX1 22 "TroubleCodes$Workshop" "madeBad" "[I"]
def wsX2_init_r2 : List Cond := [Cond.fieldLink RX1 25 "TroubleCodes$Workshop" "least" "[I", Cond.fieldLink RX1 28 "TroubleCodes$Workshop" "leastCount" "I", Cond.fieldLink RX1 31 "TroubleCodes$Workshop" "holders" "[I", Cond.fieldLink RX1 34 "TroubleCodes$Workshop" "sums" "[I", Cond.fieldLink RX1 37 "TroubleCodes$Workshop" "firstTest" "I", Cond.fieldLink RX1 40 "TroubleCodes$Workshop" "seenRan" "I", Cond.fieldLink RX1 43 "TroubleCodes$Workshop" "seenSet" "I", Cond.fieldLink RX1 46 "TroubleCodes$Workshop" "seenCauses" "I", Cond.fieldLink RX1 49 "TroubleCodes$Workshop" "planned" "Z"]
def wsX2_init : List Cond := .code yX2_init cX2_init 1 none :: ((wsX2_init_r1 ++ wsX2_init_r2) ++ wsX20 ++ wsX10)
def wsX2_isWithin : List Cond := .code yX2_isWithin cX2_isWithin 3 (some .boolean) :: ([])
def wsX2_checkAt : List Cond := .code yX2_checkAt cX2_checkAt 2 (some (.object "TroubleCodes$Check")) :: ([.fieldLink RX2 15 "TroubleCodes" "checkCount" "I", .fieldLink RX2 11 "TroubleCodes" "checks" "[LTroubleCodes$Check;", .methodLink RX2 46 yX2_isWithin, .static yX2_isWithin, .initialized RX2, .code yX2_isWithin cX2_isWithin 3 (some .boolean)] ++ wsX20)
def wsX2_check_r1 : List Cond := [Cond.fieldLink RX2 32 "TroubleCodes" "driving" "Z", Cond.fieldLink RX2 15 "TroubleCodes" "checkCount" "I", Cond.fieldLink RX2 11 "TroubleCodes" "checks" "[LTroubleCodes$Check;", Cond.classLink RX2 9 RX0, Cond.instantiable RX0 18, Cond.initialized RX0, Cond.methodLink RX2 46 yX2_isWithin, Cond.static yX2_isWithin, Cond.initialized RX2, Cond.code yX2_isWithin cX2_isWithin 3 (some .boolean), Cond.methodLink RX2 50 yX2_checkAt, Cond.instanceMethod yX2_checkAt, Cond.selects RX2 yX2_checkAt yX2_checkAt, Cond.code yX2_checkAt cX2_checkAt 2 (some (.object "TroubleCodes$Check")), Cond.methodLink RX2 54 yX0_init, Cond.instanceMethod yX0_init, Cond.code yX0_init cX0_init 8 none, Cond.methodLink RX0 3 objectInit, Cond.instanceMethod objectInit, Cond.code objectInit ⟨#[0xb1]⟩ 1 none, Cond.fieldLink RX0 11 "TroubleCodes$Check" "code" "I", Cond.fieldLink RX0 15 "TroubleCodes$Check" "badCount" "I", Cond.fieldLink RX0 18 "TroubleCodes$Check" "goodCount" "I", Cond.fieldLink RX0 21 "TroubleCodes$Check" "age" "I"]
def wsX2_check_r2 : List Cond := [Cond.fieldLink RX0 24 "TroubleCodes$Check" "told" "I", Cond.fieldLink RX0 27 "TroubleCodes$Check" "ranSinceCleared" "Z", Cond.fieldLink RX0 31 "TroubleCodes$Check" "frozenDrive" "I", Cond.fieldLink RX0 34 "TroubleCodes$Check" "frozenOrder" "I", Cond.arrayClass .int, Cond.fieldLink RX0 37 "TroubleCodes$Check" "frozenFacts" "[I", Cond.fieldLink RX0 41 "TroubleCodes$Check" "setDrives" "I", Cond.fieldLink RX0 44 "TroubleCodes$Check" "foretoldBy" "[I", Cond.fieldLink RX0 47 "TroubleCodes$Check" "sort" "I", Cond.fieldLink RX0 50 "TroubleCodes$Check" "follows" "I", Cond.fieldLink RX0 53 "TroubleCodes$Check" "badLimit" "I", Cond.fieldLink RX0 56 "TroubleCodes$Check" "goodLimit" "I", Cond.fieldLink RX0 59 "TroubleCodes$Check" "ageLimit" "I", Cond.fieldLink RX0 62 "TroubleCodes$Check" "weight" "I", Cond.fieldLink RX0 65 "TroubleCodes$Check" "lamp" "Z"]
def wsX2_check : List Cond := .code yX2_check cX2_check 8 (some .int) :: ((wsX2_check_r1 ++ wsX2_check_r2) ++ wsX20 ++ wsX00)
def wsX2_codeBits : List Cond := .code yX2_codeBits cX2_codeBits 5 (some .int) :: ([.fieldLink RX2 15 "TroubleCodes" "checkCount" "I", .fieldLink RX2 103 "TroubleCodes$Check" "code" "I", .methodLink RX2 50 yX2_checkAt, .instanceMethod yX2_checkAt, .selects RX2 yX2_checkAt yX2_checkAt, .initialized RX2, .code yX2_checkAt cX2_checkAt 2 (some (.object "TroubleCodes$Check")), .fieldLink RX2 11 "TroubleCodes" "checks" "[LTroubleCodes$Check;", .methodLink RX2 46 yX2_isWithin, .static yX2_isWithin, .code yX2_isWithin cX2_isWithin 3 (some .boolean)] ++ wsX20 ++ wsX00)
def wsX2_troubledBits : List Cond := .code yX2_troubledBits cX2_troubledBits 1 (some .int) :: ([.methodLink RX2 123 yX2_codeBits, .instanceMethod yX2_codeBits, .selects RX2 yX2_codeBits yX2_codeBits, .initialized RX2, .code yX2_codeBits cX2_codeBits 5 (some .int), .fieldLink RX2 15 "TroubleCodes" "checkCount" "I", .fieldLink RX2 103 "TroubleCodes$Check" "code" "I", .methodLink RX2 50 yX2_checkAt, .instanceMethod yX2_checkAt, .selects RX2 yX2_checkAt yX2_checkAt, .code yX2_checkAt cX2_checkAt 2 (some (.object "TroubleCodes$Check")), .fieldLink RX2 11 "TroubleCodes" "checks" "[LTroubleCodes$Check;", .methodLink RX2 46 yX2_isWithin, .static yX2_isWithin, .code yX2_isWithin cX2_isWithin 3 (some .boolean)] ++ wsX20 ++ wsX00)
def wsX2_begin : List Cond := .code yX2_begin cX2_begin 1 (some .int) :: ([.fieldLink RX2 32 "TroubleCodes" "driving" "Z", .fieldLink RX2 36 "TroubleCodes" "troubledAtBegin" "I", .fieldLink RX2 29 "TroubleCodes" "drivesEnded" "I", .methodLink RX2 57 yX2_troubledBits, .instanceMethod yX2_troubledBits, .selects RX2 yX2_troubledBits yX2_troubledBits, .initialized RX2, .code yX2_troubledBits cX2_troubledBits 1 (some .int), .methodLink RX2 123 yX2_codeBits, .instanceMethod yX2_codeBits, .selects RX2 yX2_codeBits yX2_codeBits, .code yX2_codeBits cX2_codeBits 5 (some .int), .fieldLink RX2 15 "TroubleCodes" "checkCount" "I", .fieldLink RX2 103 "TroubleCodes$Check" "code" "I", .methodLink RX2 50 yX2_checkAt, .instanceMethod yX2_checkAt, .selects RX2 yX2_checkAt yX2_checkAt, .code yX2_checkAt cX2_checkAt 2 (some (.object "TroubleCodes$Check")), .fieldLink RX2 11 "TroubleCodes" "checks" "[LTroubleCodes$Check;", .methodLink RX2 46 yX2_isWithin, .static yX2_isWithin, .code yX2_isWithin cX2_isWithin 3 (some .boolean)] ++ wsX20 ++ wsX00)
def wsX2_ran : List Cond := .code yX2_ran cX2_ran 4 (some .int) :: ([.fieldLink RX2 32 "TroubleCodes" "driving" "Z", .methodLink RX2 50 yX2_checkAt, .instanceMethod yX2_checkAt, .selects RX2 yX2_checkAt yX2_checkAt, .initialized RX2, .code yX2_checkAt cX2_checkAt 2 (some (.object "TroubleCodes$Check")), .fieldLink RX2 15 "TroubleCodes" "checkCount" "I", .fieldLink RX2 11 "TroubleCodes" "checks" "[LTroubleCodes$Check;", .methodLink RX2 46 yX2_isWithin, .static yX2_isWithin, .code yX2_isWithin cX2_isWithin 3 (some .boolean), .methodLink RX2 61 yX0_tell, .instanceMethod yX0_tell, .selects RX0 yX0_tell yX0_tell, .initialized RX0, .code yX0_tell cX0_tell 2 none, .fieldLink RX0 24 "TroubleCodes$Check" "told" "I"] ++ wsX20 ++ wsX00)
def wsX2_isHeldBack : List Cond := .code yX2_isHeldBack cX2_isHeldBack 3 (some .boolean) :: ([.fieldLink RX2 182 "TroubleCodes$Check" "sort" "I", .fieldLink RX2 185 "TroubleCodes$Check" "follows" "I", .methodLink RX2 50 yX2_checkAt, .instanceMethod yX2_checkAt, .selects RX2 yX2_checkAt yX2_checkAt, .initialized RX2, .code yX2_checkAt cX2_checkAt 2 (some (.object "TroubleCodes$Check")), .fieldLink RX2 15 "TroubleCodes" "checkCount" "I", .fieldLink RX2 11 "TroubleCodes" "checks" "[LTroubleCodes$Check;", .methodLink RX2 46 yX2_isWithin, .static yX2_isWithin, .code yX2_isWithin cX2_isWithin 3 (some .boolean), .methodLink RX2 188 yX0_isTroubled, .instanceMethod yX0_isTroubled, .selects RX0 yX0_isTroubled yX0_isTroubled, .initialized RX0, .code yX0_isTroubled cX0_isTroubled 1 (some .boolean), .fieldLink RX0 11 "TroubleCodes$Check" "code" "I"] ++ wsX00 ++ wsX20)
def wsX2_frozenCount : List Cond := .code yX2_frozenCount cX2_frozenCount 4 (some .int) :: ([.fieldLink RX2 15 "TroubleCodes" "checkCount" "I", .methodLink RX2 50 yX2_checkAt, .instanceMethod yX2_checkAt, .selects RX2 yX2_checkAt yX2_checkAt, .initialized RX2, .code yX2_checkAt cX2_checkAt 2 (some (.object "TroubleCodes$Check")), .fieldLink RX2 11 "TroubleCodes" "checks" "[LTroubleCodes$Check;", .methodLink RX2 46 yX2_isWithin, .static yX2_isWithin, .code yX2_isWithin cX2_isWithin 3 (some .boolean), .methodLink RX2 90 yX0_isFrozen, .instanceMethod yX0_isFrozen, .selects RX0 yX0_isFrozen yX0_isFrozen, .initialized RX0, .code yX0_isFrozen cX0_isFrozen 1 (some .boolean), .fieldLink RX0 31 "TroubleCodes$Check" "frozenDrive" "I"] ++ wsX20 ++ wsX00)
def wsX2_leastFrozen_r1 : List Cond := [Cond.fieldLink RX2 15 "TroubleCodes" "checkCount" "I", Cond.methodLink RX2 50 yX2_checkAt, Cond.instanceMethod yX2_checkAt, Cond.selects RX2 yX2_checkAt yX2_checkAt, Cond.initialized RX2, Cond.code yX2_checkAt cX2_checkAt 2 (some (.object "TroubleCodes$Check")), Cond.fieldLink RX2 11 "TroubleCodes" "checks" "[LTroubleCodes$Check;", Cond.methodLink RX2 46 yX2_isWithin, Cond.static yX2_isWithin, Cond.code yX2_isWithin cX2_isWithin 3 (some .boolean), Cond.methodLink RX2 90 yX0_isFrozen, Cond.instanceMethod yX0_isFrozen, Cond.selects RX0 yX0_isFrozen yX0_isFrozen, Cond.initialized RX0, Cond.code yX0_isFrozen cX0_isFrozen 1 (some .boolean), Cond.fieldLink RX0 31 "TroubleCodes$Check" "frozenDrive" "I", Cond.methodLink RX2 206 yX0_isPermanent, Cond.instanceMethod yX0_isPermanent, Cond.selects RX0 yX0_isPermanent yX0_isPermanent, Cond.code yX0_isPermanent cX0_isPermanent 1 (some .boolean), Cond.fieldLink RX0 47 "TroubleCodes$Check" "sort" "I", Cond.methodLink RX2 209 yX0_goesAheadOf, Cond.instanceMethod yX0_goesAheadOf, Cond.selects RX0 yX0_goesAheadOf yX0_goesAheadOf]
def wsX2_leastFrozen_r2 : List Cond := [Cond.code yX0_goesAheadOf cX0_goesAheadOf 2 (some .boolean), Cond.fieldLink RX0 62 "TroubleCodes$Check" "weight" "I", Cond.fieldLink RX0 34 "TroubleCodes$Check" "frozenOrder" "I"]
def wsX2_leastFrozen : List Cond := .code yX2_leastFrozen cX2_leastFrozen 4 (some (.object "TroubleCodes$Check")) :: ((wsX2_leastFrozen_r1 ++ wsX2_leastFrozen_r2) ++ wsX20 ++ wsX00)
def wsX2_freeze_r1 : List Cond := [Cond.fieldLink RX2 19 "TroubleCodes" "facts" "[I", Cond.fieldLink RX2 29 "TroubleCodes" "drivesEnded" "I", Cond.fieldLink RX2 26 "TroubleCodes" "freezings" "I", Cond.fieldLink RX2 23 "TroubleCodes" "roomFor" "I", Cond.methodLink RX2 203 yX0_freeze, Cond.instanceMethod yX0_freeze, Cond.selects RX0 yX0_freeze yX0_freeze, Cond.initialized RX0, Cond.code yX0_freeze cX0_freeze 4 none, Cond.fieldLink RX0 37 "TroubleCodes$Check" "frozenFacts" "[I", Cond.methodLink RX0 89 arraycopyName, Cond.native arraycopyName, Cond.static arraycopyName, Cond.initialized "java/lang/System", Cond.fieldLink RX0 31 "TroubleCodes$Check" "frozenDrive" "I", Cond.fieldLink RX0 34 "TroubleCodes$Check" "frozenOrder" "I", Cond.methodLink RX2 69 yX2_frozenCount, Cond.instanceMethod yX2_frozenCount, Cond.selects RX2 yX2_frozenCount yX2_frozenCount, Cond.initialized RX2, Cond.code yX2_frozenCount cX2_frozenCount 4 (some .int), Cond.fieldLink RX2 15 "TroubleCodes" "checkCount" "I", Cond.methodLink RX2 50 yX2_checkAt, Cond.instanceMethod yX2_checkAt]
def wsX2_freeze_r2 : List Cond := [Cond.selects RX2 yX2_checkAt yX2_checkAt, Cond.code yX2_checkAt cX2_checkAt 2 (some (.object "TroubleCodes$Check")), Cond.fieldLink RX2 11 "TroubleCodes" "checks" "[LTroubleCodes$Check;", Cond.methodLink RX2 46 yX2_isWithin, Cond.static yX2_isWithin, Cond.code yX2_isWithin cX2_isWithin 3 (some .boolean), Cond.methodLink RX2 90 yX0_isFrozen, Cond.instanceMethod yX0_isFrozen, Cond.selects RX0 yX0_isFrozen yX0_isFrozen, Cond.code yX0_isFrozen cX0_isFrozen 1 (some .boolean), Cond.methodLink RX2 72 yX2_leastFrozen, Cond.instanceMethod yX2_leastFrozen, Cond.selects RX2 yX2_leastFrozen yX2_leastFrozen, Cond.code yX2_leastFrozen cX2_leastFrozen 4 (some (.object "TroubleCodes$Check")), Cond.methodLink RX2 206 yX0_isPermanent, Cond.instanceMethod yX0_isPermanent, Cond.selects RX0 yX0_isPermanent yX0_isPermanent, Cond.code yX0_isPermanent cX0_isPermanent 1 (some .boolean), Cond.fieldLink RX0 47 "TroubleCodes$Check" "sort" "I", Cond.methodLink RX2 209 yX0_goesAheadOf, Cond.instanceMethod yX0_goesAheadOf, Cond.selects RX0 yX0_goesAheadOf yX0_goesAheadOf, Cond.code yX0_goesAheadOf cX0_goesAheadOf 2 (some .boolean), Cond.fieldLink RX0 62 "TroubleCodes$Check" "weight" "I"]
def wsX2_freeze_r3 : List Cond := [Cond.methodLink RX2 76 yX0_thaw, Cond.instanceMethod yX0_thaw, Cond.selects RX0 yX0_thaw yX0_thaw, Cond.code yX0_thaw cX0_thaw 1 none]
def wsX2_freeze : List Cond := .code yX2_freeze cX2_freeze 3 none :: ((wsX2_freeze_r1 ++ (wsX2_freeze_r2 ++ wsX2_freeze_r3)) ++ wsX20 ++ wsX00)
def wsX2_endFor_r1 : List Cond := [Cond.fieldLink RX2 36 "TroubleCodes" "troubledAtBegin" "I", Cond.methodLink RX2 79 yX2_isHeldBack, Cond.instanceMethod yX2_isHeldBack, Cond.selects RX2 yX2_isHeldBack yX2_isHeldBack, Cond.initialized RX2, Cond.code yX2_isHeldBack cX2_isHeldBack 3 (some .boolean), Cond.fieldLink RX2 182 "TroubleCodes$Check" "sort" "I", Cond.fieldLink RX2 185 "TroubleCodes$Check" "follows" "I", Cond.methodLink RX2 50 yX2_checkAt, Cond.instanceMethod yX2_checkAt, Cond.selects RX2 yX2_checkAt yX2_checkAt, Cond.code yX2_checkAt cX2_checkAt 2 (some (.object "TroubleCodes$Check")), Cond.fieldLink RX2 15 "TroubleCodes" "checkCount" "I", Cond.fieldLink RX2 11 "TroubleCodes" "checks" "[LTroubleCodes$Check;", Cond.methodLink RX2 46 yX2_isWithin, Cond.static yX2_isWithin, Cond.code yX2_isWithin cX2_isWithin 3 (some .boolean), Cond.methodLink RX2 188 yX0_isTroubled, Cond.instanceMethod yX0_isTroubled, Cond.selects RX0 yX0_isTroubled yX0_isTroubled, Cond.initialized RX0, Cond.code yX0_isTroubled cX0_isTroubled 1 (some .boolean), Cond.fieldLink RX0 11 "TroubleCodes$Check" "code" "I", Cond.methodLink RX2 191 yX0_countDrive]
def wsX2_endFor_r2 : List Cond := [Cond.instanceMethod yX0_countDrive, Cond.selects RX0 yX0_countDrive yX0_countDrive, Cond.code yX0_countDrive cX0_countDrive 3 (some .boolean), Cond.fieldLink RX0 24 "TroubleCodes$Check" "told" "I", Cond.fieldLink RX0 27 "TroubleCodes$Check" "ranSinceCleared" "Z", Cond.methodLink RX0 76 yX0_countBad, Cond.instanceMethod yX0_countBad, Cond.selects RX0 yX0_countBad yX0_countBad, Cond.code yX0_countBad cX0_countBad 3 (some .boolean), Cond.fieldLink RX0 18 "TroubleCodes$Check" "goodCount" "I", Cond.fieldLink RX0 21 "TroubleCodes$Check" "age" "I", Cond.fieldLink RX0 15 "TroubleCodes$Check" "badCount" "I", Cond.fieldLink RX0 53 "TroubleCodes$Check" "badLimit" "I", Cond.methodLink RX0 80 yX0_countGood, Cond.instanceMethod yX0_countGood, Cond.selects RX0 yX0_countGood yX0_countGood, Cond.code yX0_countGood cX0_countGood 1 none, Cond.fieldLink RX0 56 "TroubleCodes$Check" "goodLimit" "I", Cond.methodLink RX0 83 yX0_growOlder, Cond.instanceMethod yX0_growOlder, Cond.selects RX0 yX0_growOlder yX0_growOlder, Cond.code yX0_growOlder cX0_growOlder 1 none, Cond.fieldLink RX0 59 "TroubleCodes$Check" "ageLimit" "I", Cond.methodLink RX0 86 yX0_thaw]
def wsX2_endFor_r3 : List Cond := [Cond.instanceMethod yX0_thaw, Cond.selects RX0 yX0_thaw yX0_thaw, Cond.code yX0_thaw cX0_thaw 1 none, Cond.fieldLink RX0 31 "TroubleCodes$Check" "frozenDrive" "I", Cond.methodLink RX2 195 yX0_noteSet, Cond.instanceMethod yX0_noteSet, Cond.selects RX0 yX0_noteSet yX0_noteSet, Cond.code yX0_noteSet cX0_noteSet 3 none, Cond.fieldLink RX0 41 "TroubleCodes$Check" "setDrives" "I", Cond.fieldLink RX0 44 "TroubleCodes$Check" "foretoldBy" "[I", Cond.methodLink RX2 199 yX2_freeze, Cond.instanceMethod yX2_freeze, Cond.selects RX2 yX2_freeze yX2_freeze, Cond.code yX2_freeze cX2_freeze 3 none, Cond.fieldLink RX2 19 "TroubleCodes" "facts" "[I", Cond.fieldLink RX2 29 "TroubleCodes" "drivesEnded" "I", Cond.fieldLink RX2 26 "TroubleCodes" "freezings" "I", Cond.fieldLink RX2 23 "TroubleCodes" "roomFor" "I", Cond.methodLink RX2 203 yX0_freeze, Cond.instanceMethod yX0_freeze, Cond.selects RX0 yX0_freeze yX0_freeze, Cond.code yX0_freeze cX0_freeze 4 none, Cond.fieldLink RX0 37 "TroubleCodes$Check" "frozenFacts" "[I", Cond.methodLink RX0 89 arraycopyName]
def wsX2_endFor_r4 : List Cond := [Cond.native arraycopyName, Cond.static arraycopyName, Cond.initialized "java/lang/System", Cond.fieldLink RX0 34 "TroubleCodes$Check" "frozenOrder" "I", Cond.methodLink RX2 69 yX2_frozenCount, Cond.instanceMethod yX2_frozenCount, Cond.selects RX2 yX2_frozenCount yX2_frozenCount, Cond.code yX2_frozenCount cX2_frozenCount 4 (some .int), Cond.methodLink RX2 90 yX0_isFrozen, Cond.instanceMethod yX0_isFrozen, Cond.selects RX0 yX0_isFrozen yX0_isFrozen, Cond.code yX0_isFrozen cX0_isFrozen 1 (some .boolean), Cond.methodLink RX2 72 yX2_leastFrozen, Cond.instanceMethod yX2_leastFrozen, Cond.selects RX2 yX2_leastFrozen yX2_leastFrozen, Cond.code yX2_leastFrozen cX2_leastFrozen 4 (some (.object "TroubleCodes$Check")), Cond.methodLink RX2 206 yX0_isPermanent, Cond.instanceMethod yX0_isPermanent, Cond.selects RX0 yX0_isPermanent yX0_isPermanent, Cond.code yX0_isPermanent cX0_isPermanent 1 (some .boolean), Cond.fieldLink RX0 47 "TroubleCodes$Check" "sort" "I", Cond.methodLink RX2 209 yX0_goesAheadOf, Cond.instanceMethod yX0_goesAheadOf, Cond.selects RX0 yX0_goesAheadOf yX0_goesAheadOf]
def wsX2_endFor_r5 : List Cond := [Cond.code yX0_goesAheadOf cX0_goesAheadOf 2 (some .boolean), Cond.fieldLink RX0 62 "TroubleCodes$Check" "weight" "I", Cond.methodLink RX2 76 yX0_thaw]
def wsX2_endFor : List Cond := .code yX2_endFor cX2_endFor 3 (some .boolean) :: ((wsX2_endFor_r1 ++ (wsX2_endFor_r2 ++ (wsX2_endFor_r3 ++ (wsX2_endFor_r4 ++ wsX2_endFor_r5)))) ++ wsX20 ++ wsX00)
def wsX2_end_r1 : List Cond := [Cond.fieldLink RX2 32 "TroubleCodes" "driving" "Z", Cond.fieldLink RX2 15 "TroubleCodes" "checkCount" "I", Cond.fieldLink RX2 29 "TroubleCodes" "drivesEnded" "I", Cond.methodLink RX2 50 yX2_checkAt, Cond.instanceMethod yX2_checkAt, Cond.selects RX2 yX2_checkAt yX2_checkAt, Cond.initialized RX2, Cond.code yX2_checkAt cX2_checkAt 2 (some (.object "TroubleCodes$Check")), Cond.fieldLink RX2 11 "TroubleCodes" "checks" "[LTroubleCodes$Check;", Cond.methodLink RX2 46 yX2_isWithin, Cond.static yX2_isWithin, Cond.code yX2_isWithin cX2_isWithin 3 (some .boolean), Cond.methodLink RX2 65 yX2_endFor, Cond.instanceMethod yX2_endFor, Cond.selects RX2 yX2_endFor yX2_endFor, Cond.code yX2_endFor cX2_endFor 3 (some .boolean), Cond.fieldLink RX2 36 "TroubleCodes" "troubledAtBegin" "I", Cond.methodLink RX2 79 yX2_isHeldBack, Cond.instanceMethod yX2_isHeldBack, Cond.selects RX2 yX2_isHeldBack yX2_isHeldBack, Cond.code yX2_isHeldBack cX2_isHeldBack 3 (some .boolean), Cond.fieldLink RX2 182 "TroubleCodes$Check" "sort" "I", Cond.fieldLink RX2 185 "TroubleCodes$Check" "follows" "I", Cond.methodLink RX2 188 yX0_isTroubled]
def wsX2_end_r2 : List Cond := [Cond.instanceMethod yX0_isTroubled, Cond.selects RX0 yX0_isTroubled yX0_isTroubled, Cond.initialized RX0, Cond.code yX0_isTroubled cX0_isTroubled 1 (some .boolean), Cond.fieldLink RX0 11 "TroubleCodes$Check" "code" "I", Cond.methodLink RX2 191 yX0_countDrive, Cond.instanceMethod yX0_countDrive, Cond.selects RX0 yX0_countDrive yX0_countDrive, Cond.code yX0_countDrive cX0_countDrive 3 (some .boolean), Cond.fieldLink RX0 24 "TroubleCodes$Check" "told" "I", Cond.fieldLink RX0 27 "TroubleCodes$Check" "ranSinceCleared" "Z", Cond.methodLink RX0 76 yX0_countBad, Cond.instanceMethod yX0_countBad, Cond.selects RX0 yX0_countBad yX0_countBad, Cond.code yX0_countBad cX0_countBad 3 (some .boolean), Cond.fieldLink RX0 18 "TroubleCodes$Check" "goodCount" "I", Cond.fieldLink RX0 21 "TroubleCodes$Check" "age" "I", Cond.fieldLink RX0 15 "TroubleCodes$Check" "badCount" "I", Cond.fieldLink RX0 53 "TroubleCodes$Check" "badLimit" "I", Cond.methodLink RX0 80 yX0_countGood, Cond.instanceMethod yX0_countGood, Cond.selects RX0 yX0_countGood yX0_countGood, Cond.code yX0_countGood cX0_countGood 1 none, Cond.fieldLink RX0 56 "TroubleCodes$Check" "goodLimit" "I"]
def wsX2_end_r3 : List Cond := [Cond.methodLink RX0 83 yX0_growOlder, Cond.instanceMethod yX0_growOlder, Cond.selects RX0 yX0_growOlder yX0_growOlder, Cond.code yX0_growOlder cX0_growOlder 1 none, Cond.fieldLink RX0 59 "TroubleCodes$Check" "ageLimit" "I", Cond.methodLink RX0 86 yX0_thaw, Cond.instanceMethod yX0_thaw, Cond.selects RX0 yX0_thaw yX0_thaw, Cond.code yX0_thaw cX0_thaw 1 none, Cond.fieldLink RX0 31 "TroubleCodes$Check" "frozenDrive" "I", Cond.methodLink RX2 195 yX0_noteSet, Cond.instanceMethod yX0_noteSet, Cond.selects RX0 yX0_noteSet yX0_noteSet, Cond.code yX0_noteSet cX0_noteSet 3 none, Cond.fieldLink RX0 41 "TroubleCodes$Check" "setDrives" "I", Cond.fieldLink RX0 44 "TroubleCodes$Check" "foretoldBy" "[I", Cond.methodLink RX2 199 yX2_freeze, Cond.instanceMethod yX2_freeze, Cond.selects RX2 yX2_freeze yX2_freeze, Cond.code yX2_freeze cX2_freeze 3 none, Cond.fieldLink RX2 19 "TroubleCodes" "facts" "[I", Cond.fieldLink RX2 26 "TroubleCodes" "freezings" "I", Cond.fieldLink RX2 23 "TroubleCodes" "roomFor" "I", Cond.methodLink RX2 203 yX0_freeze]
def wsX2_end_r4 : List Cond := [Cond.instanceMethod yX0_freeze, Cond.selects RX0 yX0_freeze yX0_freeze, Cond.code yX0_freeze cX0_freeze 4 none, Cond.fieldLink RX0 37 "TroubleCodes$Check" "frozenFacts" "[I", Cond.methodLink RX0 89 arraycopyName, Cond.native arraycopyName, Cond.static arraycopyName, Cond.initialized "java/lang/System", Cond.fieldLink RX0 34 "TroubleCodes$Check" "frozenOrder" "I", Cond.methodLink RX2 69 yX2_frozenCount, Cond.instanceMethod yX2_frozenCount, Cond.selects RX2 yX2_frozenCount yX2_frozenCount, Cond.code yX2_frozenCount cX2_frozenCount 4 (some .int), Cond.methodLink RX2 90 yX0_isFrozen, Cond.instanceMethod yX0_isFrozen, Cond.selects RX0 yX0_isFrozen yX0_isFrozen, Cond.code yX0_isFrozen cX0_isFrozen 1 (some .boolean), Cond.methodLink RX2 72 yX2_leastFrozen, Cond.instanceMethod yX2_leastFrozen, Cond.selects RX2 yX2_leastFrozen yX2_leastFrozen, Cond.code yX2_leastFrozen cX2_leastFrozen 4 (some (.object "TroubleCodes$Check")), Cond.methodLink RX2 206 yX0_isPermanent, Cond.instanceMethod yX0_isPermanent, Cond.selects RX0 yX0_isPermanent yX0_isPermanent]
def wsX2_end_r5 : List Cond := [Cond.code yX0_isPermanent cX0_isPermanent 1 (some .boolean), Cond.fieldLink RX0 47 "TroubleCodes$Check" "sort" "I", Cond.methodLink RX2 209 yX0_goesAheadOf, Cond.instanceMethod yX0_goesAheadOf, Cond.selects RX0 yX0_goesAheadOf yX0_goesAheadOf, Cond.code yX0_goesAheadOf cX0_goesAheadOf 2 (some .boolean), Cond.fieldLink RX0 62 "TroubleCodes$Check" "weight" "I", Cond.methodLink RX2 76 yX0_thaw]
def wsX2_end : List Cond := .code yX2_end cX2_end 4 (some .int) :: ((wsX2_end_r1 ++ (wsX2_end_r2 ++ (wsX2_end_r3 ++ (wsX2_end_r4 ++ wsX2_end_r5)))) ++ wsX20 ++ wsX00)
def wsX2_fact : List Cond := .code yX2_fact cX2_fact 4 (some .int) :: ([.fieldLink RX2 19 "TroubleCodes" "facts" "[I", .methodLink RX2 46 yX2_isWithin, .static yX2_isWithin, .initialized RX2, .code yX2_isWithin cX2_isWithin 3 (some .boolean)] ++ wsX20)
def wsX2_room_r1 : List Cond := [Cond.fieldLink RX2 23 "TroubleCodes" "roomFor" "I", Cond.methodLink RX2 46 yX2_isWithin, Cond.static yX2_isWithin, Cond.initialized RX2, Cond.code yX2_isWithin cX2_isWithin 3 (some .boolean), Cond.methodLink RX2 69 yX2_frozenCount, Cond.instanceMethod yX2_frozenCount, Cond.selects RX2 yX2_frozenCount yX2_frozenCount, Cond.code yX2_frozenCount cX2_frozenCount 4 (some .int), Cond.fieldLink RX2 15 "TroubleCodes" "checkCount" "I", Cond.methodLink RX2 50 yX2_checkAt, Cond.instanceMethod yX2_checkAt, Cond.selects RX2 yX2_checkAt yX2_checkAt, Cond.code yX2_checkAt cX2_checkAt 2 (some (.object "TroubleCodes$Check")), Cond.fieldLink RX2 11 "TroubleCodes" "checks" "[LTroubleCodes$Check;", Cond.methodLink RX2 90 yX0_isFrozen, Cond.instanceMethod yX0_isFrozen, Cond.selects RX0 yX0_isFrozen yX0_isFrozen, Cond.initialized RX0, Cond.code yX0_isFrozen cX0_isFrozen 1 (some .boolean), Cond.fieldLink RX0 31 "TroubleCodes$Check" "frozenDrive" "I", Cond.methodLink RX2 72 yX2_leastFrozen, Cond.instanceMethod yX2_leastFrozen, Cond.selects RX2 yX2_leastFrozen yX2_leastFrozen]
def wsX2_room_r2 : List Cond := [Cond.code yX2_leastFrozen cX2_leastFrozen 4 (some (.object "TroubleCodes$Check")), Cond.methodLink RX2 206 yX0_isPermanent, Cond.instanceMethod yX0_isPermanent, Cond.selects RX0 yX0_isPermanent yX0_isPermanent, Cond.code yX0_isPermanent cX0_isPermanent 1 (some .boolean), Cond.fieldLink RX0 47 "TroubleCodes$Check" "sort" "I", Cond.methodLink RX2 209 yX0_goesAheadOf, Cond.instanceMethod yX0_goesAheadOf, Cond.selects RX0 yX0_goesAheadOf yX0_goesAheadOf, Cond.code yX0_goesAheadOf cX0_goesAheadOf 2 (some .boolean), Cond.fieldLink RX0 62 "TroubleCodes$Check" "weight" "I", Cond.fieldLink RX0 34 "TroubleCodes$Check" "frozenOrder" "I", Cond.methodLink RX2 76 yX0_thaw, Cond.instanceMethod yX0_thaw, Cond.selects RX0 yX0_thaw yX0_thaw, Cond.code yX0_thaw cX0_thaw 1 none]
def wsX2_room : List Cond := .code yX2_room cX2_room 5 (some .int) :: ((wsX2_room_r1 ++ wsX2_room_r2) ++ wsX20 ++ wsX00)
def wsX2_about_r1 : List Cond := [Cond.methodLink RX2 50 yX2_checkAt, Cond.instanceMethod yX2_checkAt, Cond.selects RX2 yX2_checkAt yX2_checkAt, Cond.initialized RX2, Cond.code yX2_checkAt cX2_checkAt 2 (some (.object "TroubleCodes$Check")), Cond.fieldLink RX2 15 "TroubleCodes" "checkCount" "I", Cond.fieldLink RX2 11 "TroubleCodes" "checks" "[LTroubleCodes$Check;", Cond.methodLink RX2 46 yX2_isWithin, Cond.static yX2_isWithin, Cond.code yX2_isWithin cX2_isWithin 3 (some .boolean), Cond.methodLink RX2 79 yX2_isHeldBack, Cond.instanceMethod yX2_isHeldBack, Cond.selects RX2 yX2_isHeldBack yX2_isHeldBack, Cond.code yX2_isHeldBack cX2_isHeldBack 3 (some .boolean), Cond.fieldLink RX2 182 "TroubleCodes$Check" "sort" "I", Cond.fieldLink RX2 185 "TroubleCodes$Check" "follows" "I", Cond.methodLink RX2 188 yX0_isTroubled, Cond.instanceMethod yX0_isTroubled, Cond.selects RX0 yX0_isTroubled yX0_isTroubled, Cond.initialized RX0, Cond.code yX0_isTroubled cX0_isTroubled 1 (some .boolean), Cond.fieldLink RX0 11 "TroubleCodes$Check" "code" "I", Cond.methodLink RX2 82 yX2_asNumber, Cond.static yX2_asNumber]
def wsX2_about_r2 : List Cond := [Cond.code yX2_asNumber cX2_asNumber 1 (some .int), Cond.methodLink RX2 86 yX0_numberOf, Cond.instanceMethod yX0_numberOf, Cond.selects RX0 yX0_numberOf yX0_numberOf, Cond.code yX0_numberOf cX0_numberOf 2 (some .int), Cond.fieldLink RX0 15 "TroubleCodes$Check" "badCount" "I", Cond.fieldLink RX0 18 "TroubleCodes$Check" "goodCount" "I", Cond.fieldLink RX0 21 "TroubleCodes$Check" "age" "I", Cond.fieldLink RX0 27 "TroubleCodes$Check" "ranSinceCleared" "Z", Cond.fieldLink RX0 47 "TroubleCodes$Check" "sort" "I", Cond.methodLink RX0 68 yX0_isFrozen, Cond.instanceMethod yX0_isFrozen, Cond.selects RX0 yX0_isFrozen yX0_isFrozen, Cond.code yX0_isFrozen cX0_isFrozen 1 (some .boolean), Cond.fieldLink RX0 31 "TroubleCodes$Check" "frozenDrive" "I"]
def wsX2_about : List Cond := .code yX2_about cX2_about 4 (some .int) :: ((wsX2_about_r1 ++ wsX2_about_r2) ++ wsX20 ++ wsX00)
def wsX2_frozen : List Cond := .code yX2_frozen cX2_frozen 4 (some .int) :: ([.fieldLink RX2 94 "TroubleCodes$Check" "frozenFacts" "[I", .methodLink RX2 50 yX2_checkAt, .instanceMethod yX2_checkAt, .selects RX2 yX2_checkAt yX2_checkAt, .initialized RX2, .code yX2_checkAt cX2_checkAt 2 (some (.object "TroubleCodes$Check")), .fieldLink RX2 15 "TroubleCodes" "checkCount" "I", .fieldLink RX2 11 "TroubleCodes" "checks" "[LTroubleCodes$Check;", .methodLink RX2 46 yX2_isWithin, .static yX2_isWithin, .code yX2_isWithin cX2_isWithin 3 (some .boolean), .methodLink RX2 90 yX0_isFrozen, .instanceMethod yX0_isFrozen, .selects RX0 yX0_isFrozen yX0_isFrozen, .initialized RX0, .code yX0_isFrozen cX0_isFrozen 1 (some .boolean), .fieldLink RX0 31 "TroubleCodes$Check" "frozenDrive" "I"] ++ wsX00 ++ wsX20)
def wsX2_frozenAt : List Cond := .code yX2_frozenAt cX2_frozenAt 3 (some .int) :: ([.fieldLink RX2 97 "TroubleCodes$Check" "frozenDrive" "I", .methodLink RX2 50 yX2_checkAt, .instanceMethod yX2_checkAt, .selects RX2 yX2_checkAt yX2_checkAt, .initialized RX2, .code yX2_checkAt cX2_checkAt 2 (some (.object "TroubleCodes$Check")), .fieldLink RX2 15 "TroubleCodes" "checkCount" "I", .fieldLink RX2 11 "TroubleCodes" "checks" "[LTroubleCodes$Check;", .methodLink RX2 46 yX2_isWithin, .static yX2_isWithin, .code yX2_isWithin cX2_isWithin 3 (some .boolean)] ++ wsX00 ++ wsX20)
def wsX2_lamp : List Cond := .code yX2_lamp cX2_lamp 3 (some .int) :: ([.fieldLink RX2 15 "TroubleCodes" "checkCount" "I", .fieldLink RX2 100 "TroubleCodes$Check" "lamp" "Z", .fieldLink RX2 103 "TroubleCodes$Check" "code" "I", .methodLink RX2 50 yX2_checkAt, .instanceMethod yX2_checkAt, .selects RX2 yX2_checkAt yX2_checkAt, .initialized RX2, .code yX2_checkAt cX2_checkAt 2 (some (.object "TroubleCodes$Check")), .fieldLink RX2 11 "TroubleCodes" "checks" "[LTroubleCodes$Check;", .methodLink RX2 46 yX2_isWithin, .static yX2_isWithin, .code yX2_isWithin cX2_isWithin 3 (some .boolean)] ++ wsX20 ++ wsX00)
def wsX2_clear_r1 : List Cond := [Cond.fieldLink RX2 32 "TroubleCodes" "driving" "Z", Cond.fieldLink RX2 15 "TroubleCodes" "checkCount" "I", Cond.methodLink RX2 50 yX2_checkAt, Cond.instanceMethod yX2_checkAt, Cond.selects RX2 yX2_checkAt yX2_checkAt, Cond.initialized RX2, Cond.code yX2_checkAt cX2_checkAt 2 (some (.object "TroubleCodes$Check")), Cond.fieldLink RX2 11 "TroubleCodes" "checks" "[LTroubleCodes$Check;", Cond.methodLink RX2 46 yX2_isWithin, Cond.static yX2_isWithin, Cond.code yX2_isWithin cX2_isWithin 3 (some .boolean), Cond.methodLink RX2 106 yX0_clearCode, Cond.instanceMethod yX0_clearCode, Cond.selects RX0 yX0_clearCode yX0_clearCode, Cond.initialized RX0, Cond.code yX0_clearCode cX0_clearCode 2 (some .boolean), Cond.fieldLink RX0 15 "TroubleCodes$Check" "badCount" "I", Cond.fieldLink RX0 18 "TroubleCodes$Check" "goodCount" "I", Cond.fieldLink RX0 21 "TroubleCodes$Check" "age" "I", Cond.fieldLink RX0 27 "TroubleCodes$Check" "ranSinceCleared" "Z", Cond.fieldLink RX0 11 "TroubleCodes$Check" "code" "I", Cond.methodLink RX0 95 yX0_isPermanent, Cond.instanceMethod yX0_isPermanent, Cond.selects RX0 yX0_isPermanent yX0_isPermanent]
def wsX2_clear_r2 : List Cond := [Cond.code yX0_isPermanent cX0_isPermanent 1 (some .boolean), Cond.fieldLink RX0 47 "TroubleCodes$Check" "sort" "I", Cond.methodLink RX0 86 yX0_thaw, Cond.instanceMethod yX0_thaw, Cond.selects RX0 yX0_thaw yX0_thaw, Cond.code yX0_thaw cX0_thaw 1 none, Cond.fieldLink RX0 31 "TroubleCodes$Check" "frozenDrive" "I"]
def wsX2_clear : List Cond := .code yX2_clear cX2_clear 4 (some .int) :: ((wsX2_clear_r1 ++ wsX2_clear_r2) ++ wsX20 ++ wsX00)
def wsX2_isBitsBelow : List Cond := .code yX2_isBitsBelow cX2_isBitsBelow 2 (some .boolean) :: ([])
def wsX2_cause : List Cond := .code yX2_cause cX2_cause 3 (some .int) :: ([.fieldLink RX2 15 "TroubleCodes" "checkCount" "I", .fieldLink RX2 42 "TroubleCodes" "workshop" "LTroubleCodes$Workshop;", .methodLink RX2 109 yX2_isBitsBelow, .static yX2_isBitsBelow, .initialized RX2, .code yX2_isBitsBelow cX2_isBitsBelow 2 (some .boolean), .methodLink RX2 46 yX2_isWithin, .static yX2_isWithin, .code yX2_isWithin cX2_isWithin 3 (some .boolean), .methodLink RX2 113 yX1_addCause, .instanceMethod yX1_addCause, .selects RX1 yX1_addCause yX1_addCause, .initialized RX1, .code yX1_addCause cX1_addCause 5 (some .int), .fieldLink RX1 18 "TroubleCodes$Workshop" "causeCount" "I", .fieldLink RX1 11 "TroubleCodes$Workshop" "causeChecks" "[I", .fieldLink RX1 15 "TroubleCodes$Workshop" "prices" "[I", .fieldLink RX1 22 "TroubleCodes$Workshop" "madeBad" "[I"] ++ wsX20 ++ wsX10)
def wsX2_ranBits : List Cond := .code yX2_ranBits cX2_ranBits 4 (some .int) :: ([.fieldLink RX2 15 "TroubleCodes" "checkCount" "I", .fieldLink RX2 212 "TroubleCodes$Check" "ranSinceCleared" "Z", .methodLink RX2 50 yX2_checkAt, .instanceMethod yX2_checkAt, .selects RX2 yX2_checkAt yX2_checkAt, .initialized RX2, .code yX2_checkAt cX2_checkAt 2 (some (.object "TroubleCodes$Check")), .fieldLink RX2 11 "TroubleCodes" "checks" "[LTroubleCodes$Check;", .methodLink RX2 46 yX2_isWithin, .static yX2_isWithin, .code yX2_isWithin cX2_isWithin 3 (some .boolean)] ++ wsX20 ++ wsX00)
def wsX2_explains_r1 : List Cond := [Cond.fieldLink RX2 42 "TroubleCodes" "workshop" "LTroubleCodes$Workshop;", Cond.fieldLink RX2 117 "TroubleCodes$Workshop" "causeCount" "I", Cond.methodLink RX2 109 yX2_isBitsBelow, Cond.static yX2_isBitsBelow, Cond.initialized RX2, Cond.code yX2_isBitsBelow cX2_isBitsBelow 2 (some .boolean), Cond.methodLink RX2 120 yX2_ranBits, Cond.instanceMethod yX2_ranBits, Cond.selects RX2 yX2_ranBits yX2_ranBits, Cond.code yX2_ranBits cX2_ranBits 4 (some .int), Cond.fieldLink RX2 15 "TroubleCodes" "checkCount" "I", Cond.fieldLink RX2 212 "TroubleCodes$Check" "ranSinceCleared" "Z", Cond.methodLink RX2 50 yX2_checkAt, Cond.instanceMethod yX2_checkAt, Cond.selects RX2 yX2_checkAt yX2_checkAt, Cond.code yX2_checkAt cX2_checkAt 2 (some (.object "TroubleCodes$Check")), Cond.fieldLink RX2 11 "TroubleCodes" "checks" "[LTroubleCodes$Check;", Cond.methodLink RX2 46 yX2_isWithin, Cond.static yX2_isWithin, Cond.code yX2_isWithin cX2_isWithin 3 (some .boolean), Cond.methodLink RX2 123 yX2_codeBits, Cond.instanceMethod yX2_codeBits, Cond.selects RX2 yX2_codeBits yX2_codeBits, Cond.code yX2_codeBits cX2_codeBits 5 (some .int)]
def wsX2_explains_r2 : List Cond := [Cond.fieldLink RX2 103 "TroubleCodes$Check" "code" "I", Cond.methodLink RX2 126 yX1_isExplainedBy, Cond.instanceMethod yX1_isExplainedBy, Cond.selects RX1 yX1_isExplainedBy yX1_isExplainedBy, Cond.initialized RX1, Cond.code yX1_isExplainedBy cX1_isExplainedBy 4 (some .boolean), Cond.fieldLink RX1 22 "TroubleCodes$Workshop" "madeBad" "[I", Cond.methodLink RX2 82 yX2_asNumber, Cond.static yX2_asNumber, Cond.code yX2_asNumber cX2_asNumber 1 (some .int)]
def wsX2_explains : List Cond := .code yX2_explains cX2_explains 2 (some .int) :: ((wsX2_explains_r1 ++ wsX2_explains_r2) ++ wsX20 ++ wsX10 ++ wsX00)
def wsX2_lookAtCodes_r1 : List Cond := [Cond.fieldLink RX2 42 "TroubleCodes" "workshop" "LTroubleCodes$Workshop;", Cond.methodLink RX2 120 yX2_ranBits, Cond.instanceMethod yX2_ranBits, Cond.selects RX2 yX2_ranBits yX2_ranBits, Cond.initialized RX2, Cond.code yX2_ranBits cX2_ranBits 4 (some .int), Cond.fieldLink RX2 15 "TroubleCodes" "checkCount" "I", Cond.fieldLink RX2 212 "TroubleCodes$Check" "ranSinceCleared" "Z", Cond.methodLink RX2 50 yX2_checkAt, Cond.instanceMethod yX2_checkAt, Cond.selects RX2 yX2_checkAt yX2_checkAt, Cond.code yX2_checkAt cX2_checkAt 2 (some (.object "TroubleCodes$Check")), Cond.fieldLink RX2 11 "TroubleCodes" "checks" "[LTroubleCodes$Check;", Cond.methodLink RX2 46 yX2_isWithin, Cond.static yX2_isWithin, Cond.code yX2_isWithin cX2_isWithin 3 (some .boolean), Cond.methodLink RX2 123 yX2_codeBits, Cond.instanceMethod yX2_codeBits, Cond.selects RX2 yX2_codeBits yX2_codeBits, Cond.code yX2_codeBits cX2_codeBits 5 (some .int), Cond.fieldLink RX2 103 "TroubleCodes$Check" "code" "I", Cond.methodLink RX2 215 yX1_look, Cond.instanceMethod yX1_look, Cond.selects RX1 yX1_look yX1_look]
def wsX2_lookAtCodes_r2 : List Cond := [Cond.initialized RX1, Cond.code yX1_look cX1_look 3 none, Cond.fieldLink RX1 40 "TroubleCodes$Workshop" "seenRan" "I", Cond.fieldLink RX1 43 "TroubleCodes$Workshop" "seenSet" "I", Cond.fieldLink RX1 18 "TroubleCodes$Workshop" "causeCount" "I", Cond.fieldLink RX1 46 "TroubleCodes$Workshop" "seenCauses" "I", Cond.fieldLink RX1 49 "TroubleCodes$Workshop" "planned" "Z", Cond.methodLink RX1 53 yX1_findLeast, Cond.instanceMethod yX1_findLeast, Cond.selects RX1 yX1_findLeast yX1_findLeast, Cond.code yX1_findLeast cX1_findLeast 4 none, Cond.fieldLink RX1 28 "TroubleCodes$Workshop" "leastCount" "I", Cond.fieldLink RX1 25 "TroubleCodes$Workshop" "least" "[I", Cond.methodLink RX1 56 yJ6_bitCount_0f7a4, Cond.static yJ6_bitCount_0f7a4, Cond.initialized RJ6, Cond.code yJ6_bitCount_0f7a4 cJ6_bitCount_0f7a4 1 (some .int), Cond.constant RJ6 265 (1431655765), Cond.constant RJ6 266 (858993459), Cond.constant RJ6 267 (252645135), Cond.methodLink RX1 62 yX1_isExplainedBy, Cond.instanceMethod yX1_isExplainedBy, Cond.selects RX1 yX1_isExplainedBy yX1_isExplainedBy, Cond.code yX1_isExplainedBy cX1_isExplainedBy 4 (some .boolean)]
def wsX2_lookAtCodes_r3 : List Cond := [Cond.fieldLink RX1 22 "TroubleCodes$Workshop" "madeBad" "[I"]
def wsX2_lookAtCodes : List Cond := .code yX2_lookAtCodes cX2_lookAtCodes 1 none :: ((wsX2_lookAtCodes_r1 ++ (wsX2_lookAtCodes_r2 ++ wsX2_lookAtCodes_r3)) ++ wsX20 ++ wsX00 ++ wsX10)
def wsX2_least_r1 : List Cond := [Cond.fieldLink RX2 42 "TroubleCodes" "workshop" "LTroubleCodes$Workshop;", Cond.fieldLink RX2 132 "TroubleCodes$Workshop" "leastCount" "I", Cond.methodLink RX2 129 yX2_lookAtCodes, Cond.instanceMethod yX2_lookAtCodes, Cond.selects RX2 yX2_lookAtCodes yX2_lookAtCodes, Cond.initialized RX2, Cond.code yX2_lookAtCodes cX2_lookAtCodes 1 none, Cond.methodLink RX2 120 yX2_ranBits, Cond.instanceMethod yX2_ranBits, Cond.selects RX2 yX2_ranBits yX2_ranBits, Cond.code yX2_ranBits cX2_ranBits 4 (some .int), Cond.fieldLink RX2 15 "TroubleCodes" "checkCount" "I", Cond.fieldLink RX2 212 "TroubleCodes$Check" "ranSinceCleared" "Z", Cond.methodLink RX2 50 yX2_checkAt, Cond.instanceMethod yX2_checkAt, Cond.selects RX2 yX2_checkAt yX2_checkAt, Cond.code yX2_checkAt cX2_checkAt 2 (some (.object "TroubleCodes$Check")), Cond.fieldLink RX2 11 "TroubleCodes" "checks" "[LTroubleCodes$Check;", Cond.methodLink RX2 46 yX2_isWithin, Cond.static yX2_isWithin, Cond.code yX2_isWithin cX2_isWithin 3 (some .boolean), Cond.methodLink RX2 123 yX2_codeBits, Cond.instanceMethod yX2_codeBits, Cond.selects RX2 yX2_codeBits yX2_codeBits]
def wsX2_least_r2 : List Cond := [Cond.code yX2_codeBits cX2_codeBits 5 (some .int), Cond.fieldLink RX2 103 "TroubleCodes$Check" "code" "I", Cond.methodLink RX2 215 yX1_look, Cond.instanceMethod yX1_look, Cond.selects RX1 yX1_look yX1_look, Cond.initialized RX1, Cond.code yX1_look cX1_look 3 none, Cond.fieldLink RX1 40 "TroubleCodes$Workshop" "seenRan" "I", Cond.fieldLink RX1 43 "TroubleCodes$Workshop" "seenSet" "I", Cond.fieldLink RX1 18 "TroubleCodes$Workshop" "causeCount" "I", Cond.fieldLink RX1 46 "TroubleCodes$Workshop" "seenCauses" "I", Cond.fieldLink RX1 49 "TroubleCodes$Workshop" "planned" "Z", Cond.methodLink RX1 53 yX1_findLeast, Cond.instanceMethod yX1_findLeast, Cond.selects RX1 yX1_findLeast yX1_findLeast, Cond.code yX1_findLeast cX1_findLeast 4 none, Cond.fieldLink RX1 28 "TroubleCodes$Workshop" "leastCount" "I", Cond.fieldLink RX1 25 "TroubleCodes$Workshop" "least" "[I", Cond.methodLink RX1 56 yJ6_bitCount_0f7a4, Cond.static yJ6_bitCount_0f7a4, Cond.initialized RJ6, Cond.code yJ6_bitCount_0f7a4 cJ6_bitCount_0f7a4 1 (some .int), Cond.constant RJ6 265 (1431655765), Cond.constant RJ6 266 (858993459)]
def wsX2_least_r3 : List Cond := [Cond.constant RJ6 267 (252645135), Cond.methodLink RX1 62 yX1_isExplainedBy, Cond.instanceMethod yX1_isExplainedBy, Cond.selects RX1 yX1_isExplainedBy yX1_isExplainedBy, Cond.code yX1_isExplainedBy cX1_isExplainedBy 4 (some .boolean), Cond.fieldLink RX1 22 "TroubleCodes$Workshop" "madeBad" "[I"]
def wsX2_least : List Cond := .code yX2_least cX2_least 1 (some .int) :: ((wsX2_least_r1 ++ (wsX2_least_r2 ++ wsX2_least_r3)) ++ wsX20 ++ wsX10 ++ wsX00)
def wsX2_leastAt_r1 : List Cond := [Cond.fieldLink RX2 42 "TroubleCodes" "workshop" "LTroubleCodes$Workshop;", Cond.fieldLink RX2 132 "TroubleCodes$Workshop" "leastCount" "I", Cond.fieldLink RX2 135 "TroubleCodes$Workshop" "least" "[I", Cond.methodLink RX2 129 yX2_lookAtCodes, Cond.instanceMethod yX2_lookAtCodes, Cond.selects RX2 yX2_lookAtCodes yX2_lookAtCodes, Cond.initialized RX2, Cond.code yX2_lookAtCodes cX2_lookAtCodes 1 none, Cond.methodLink RX2 120 yX2_ranBits, Cond.instanceMethod yX2_ranBits, Cond.selects RX2 yX2_ranBits yX2_ranBits, Cond.code yX2_ranBits cX2_ranBits 4 (some .int), Cond.fieldLink RX2 15 "TroubleCodes" "checkCount" "I", Cond.fieldLink RX2 212 "TroubleCodes$Check" "ranSinceCleared" "Z", Cond.methodLink RX2 50 yX2_checkAt, Cond.instanceMethod yX2_checkAt, Cond.selects RX2 yX2_checkAt yX2_checkAt, Cond.code yX2_checkAt cX2_checkAt 2 (some (.object "TroubleCodes$Check")), Cond.fieldLink RX2 11 "TroubleCodes" "checks" "[LTroubleCodes$Check;", Cond.methodLink RX2 46 yX2_isWithin, Cond.static yX2_isWithin, Cond.code yX2_isWithin cX2_isWithin 3 (some .boolean), Cond.methodLink RX2 123 yX2_codeBits, Cond.instanceMethod yX2_codeBits]
def wsX2_leastAt_r2 : List Cond := [Cond.selects RX2 yX2_codeBits yX2_codeBits, Cond.code yX2_codeBits cX2_codeBits 5 (some .int), Cond.fieldLink RX2 103 "TroubleCodes$Check" "code" "I", Cond.methodLink RX2 215 yX1_look, Cond.instanceMethod yX1_look, Cond.selects RX1 yX1_look yX1_look, Cond.initialized RX1, Cond.code yX1_look cX1_look 3 none, Cond.fieldLink RX1 40 "TroubleCodes$Workshop" "seenRan" "I", Cond.fieldLink RX1 43 "TroubleCodes$Workshop" "seenSet" "I", Cond.fieldLink RX1 18 "TroubleCodes$Workshop" "causeCount" "I", Cond.fieldLink RX1 46 "TroubleCodes$Workshop" "seenCauses" "I", Cond.fieldLink RX1 49 "TroubleCodes$Workshop" "planned" "Z", Cond.methodLink RX1 53 yX1_findLeast, Cond.instanceMethod yX1_findLeast, Cond.selects RX1 yX1_findLeast yX1_findLeast, Cond.code yX1_findLeast cX1_findLeast 4 none, Cond.fieldLink RX1 28 "TroubleCodes$Workshop" "leastCount" "I", Cond.fieldLink RX1 25 "TroubleCodes$Workshop" "least" "[I", Cond.methodLink RX1 56 yJ6_bitCount_0f7a4, Cond.static yJ6_bitCount_0f7a4, Cond.initialized RJ6, Cond.code yJ6_bitCount_0f7a4 cJ6_bitCount_0f7a4 1 (some .int), Cond.constant RJ6 265 (1431655765)]
def wsX2_leastAt_r3 : List Cond := [Cond.constant RJ6 266 (858993459), Cond.constant RJ6 267 (252645135), Cond.methodLink RX1 62 yX1_isExplainedBy, Cond.instanceMethod yX1_isExplainedBy, Cond.selects RX1 yX1_isExplainedBy yX1_isExplainedBy, Cond.code yX1_isExplainedBy cX1_isExplainedBy 4 (some .boolean), Cond.fieldLink RX1 22 "TroubleCodes$Workshop" "madeBad" "[I"]
def wsX2_leastAt : List Cond := .code yX2_leastAt cX2_leastAt 2 (some .int) :: ((wsX2_leastAt_r1 ++ (wsX2_leastAt_r2 ++ wsX2_leastAt_r3)) ++ wsX20 ++ wsX10 ++ wsX00)
def wsX2_plan_r1 : List Cond := [Cond.fieldLink RX2 42 "TroubleCodes" "workshop" "LTroubleCodes$Workshop;", Cond.methodLink RX2 129 yX2_lookAtCodes, Cond.instanceMethod yX2_lookAtCodes, Cond.selects RX2 yX2_lookAtCodes yX2_lookAtCodes, Cond.initialized RX2, Cond.code yX2_lookAtCodes cX2_lookAtCodes 1 none, Cond.methodLink RX2 120 yX2_ranBits, Cond.instanceMethod yX2_ranBits, Cond.selects RX2 yX2_ranBits yX2_ranBits, Cond.code yX2_ranBits cX2_ranBits 4 (some .int), Cond.fieldLink RX2 15 "TroubleCodes" "checkCount" "I", Cond.fieldLink RX2 212 "TroubleCodes$Check" "ranSinceCleared" "Z", Cond.methodLink RX2 50 yX2_checkAt, Cond.instanceMethod yX2_checkAt, Cond.selects RX2 yX2_checkAt yX2_checkAt, Cond.code yX2_checkAt cX2_checkAt 2 (some (.object "TroubleCodes$Check")), Cond.fieldLink RX2 11 "TroubleCodes" "checks" "[LTroubleCodes$Check;", Cond.methodLink RX2 46 yX2_isWithin, Cond.static yX2_isWithin, Cond.code yX2_isWithin cX2_isWithin 3 (some .boolean), Cond.methodLink RX2 123 yX2_codeBits, Cond.instanceMethod yX2_codeBits, Cond.selects RX2 yX2_codeBits yX2_codeBits, Cond.code yX2_codeBits cX2_codeBits 5 (some .int)]
def wsX2_plan_r2 : List Cond := [Cond.fieldLink RX2 103 "TroubleCodes$Check" "code" "I", Cond.methodLink RX2 215 yX1_look, Cond.instanceMethod yX1_look, Cond.selects RX1 yX1_look yX1_look, Cond.initialized RX1, Cond.code yX1_look cX1_look 3 none, Cond.fieldLink RX1 40 "TroubleCodes$Workshop" "seenRan" "I", Cond.fieldLink RX1 43 "TroubleCodes$Workshop" "seenSet" "I", Cond.fieldLink RX1 18 "TroubleCodes$Workshop" "causeCount" "I", Cond.fieldLink RX1 46 "TroubleCodes$Workshop" "seenCauses" "I", Cond.fieldLink RX1 49 "TroubleCodes$Workshop" "planned" "Z", Cond.methodLink RX1 53 yX1_findLeast, Cond.instanceMethod yX1_findLeast, Cond.selects RX1 yX1_findLeast yX1_findLeast, Cond.code yX1_findLeast cX1_findLeast 4 none, Cond.fieldLink RX1 28 "TroubleCodes$Workshop" "leastCount" "I", Cond.fieldLink RX1 25 "TroubleCodes$Workshop" "least" "[I", Cond.methodLink RX1 56 yJ6_bitCount_0f7a4, Cond.static yJ6_bitCount_0f7a4, Cond.initialized RJ6, Cond.code yJ6_bitCount_0f7a4 cJ6_bitCount_0f7a4 1 (some .int), Cond.constant RJ6 265 (1431655765), Cond.constant RJ6 266 (858993459), Cond.constant RJ6 267 (252645135)]
def wsX2_plan_r3 : List Cond := [Cond.methodLink RX1 62 yX1_isExplainedBy, Cond.instanceMethod yX1_isExplainedBy, Cond.selects RX1 yX1_isExplainedBy yX1_isExplainedBy, Cond.code yX1_isExplainedBy cX1_isExplainedBy 4 (some .boolean), Cond.fieldLink RX1 22 "TroubleCodes$Workshop" "madeBad" "[I", Cond.methodLink RX2 138 yX1_planSum, Cond.instanceMethod yX1_planSum, Cond.selects RX1 yX1_planSum yX1_planSum, Cond.code yX1_planSum cX1_planSum 1 (some .int), Cond.fieldLink RX1 34 "TroubleCodes$Workshop" "sums" "[I", Cond.methodLink RX1 66 yX1_makePlan, Cond.instanceMethod yX1_makePlan, Cond.selects RX1 yX1_makePlan yX1_makePlan, Cond.code yX1_makePlan cX1_makePlan 2 none, Cond.fieldLink RX1 31 "TroubleCodes$Workshop" "holders" "[I", Cond.methodLink RX1 73 yX1_holdersOf, Cond.instanceMethod yX1_holdersOf, Cond.selects RX1 yX1_holdersOf yX1_holdersOf, Cond.code yX1_holdersOf cX1_holdersOf 4 (some .int), Cond.methodLink RX1 69 yX1_allLeast, Cond.instanceMethod yX1_allLeast, Cond.selects RX1 yX1_allLeast yX1_allLeast, Cond.code yX1_allLeast cX1_allLeast 1 (some .int), Cond.methodLink RX1 76 yX1_planFor]
def wsX2_plan_r4 : List Cond := [Cond.instanceMethod yX1_planFor, Cond.selects RX1 yX1_planFor yX1_planFor, Cond.code yX1_planFor cX1_planFor 6 none, Cond.fieldLink RX1 37 "TroubleCodes$Workshop" "firstTest" "I", Cond.fieldLink RX1 15 "TroubleCodes$Workshop" "prices" "[I"]
def wsX2_plan : List Cond := .code yX2_plan cX2_plan 1 (some .int) :: ((wsX2_plan_r1 ++ (wsX2_plan_r2 ++ (wsX2_plan_r3 ++ wsX2_plan_r4))) ++ wsX20 ++ wsX00 ++ wsX10)
def wsX2_test_r1 : List Cond := [Cond.fieldLink RX2 42 "TroubleCodes" "workshop" "LTroubleCodes$Workshop;", Cond.methodLink RX2 129 yX2_lookAtCodes, Cond.instanceMethod yX2_lookAtCodes, Cond.selects RX2 yX2_lookAtCodes yX2_lookAtCodes, Cond.initialized RX2, Cond.code yX2_lookAtCodes cX2_lookAtCodes 1 none, Cond.methodLink RX2 120 yX2_ranBits, Cond.instanceMethod yX2_ranBits, Cond.selects RX2 yX2_ranBits yX2_ranBits, Cond.code yX2_ranBits cX2_ranBits 4 (some .int), Cond.fieldLink RX2 15 "TroubleCodes" "checkCount" "I", Cond.fieldLink RX2 212 "TroubleCodes$Check" "ranSinceCleared" "Z", Cond.methodLink RX2 50 yX2_checkAt, Cond.instanceMethod yX2_checkAt, Cond.selects RX2 yX2_checkAt yX2_checkAt, Cond.code yX2_checkAt cX2_checkAt 2 (some (.object "TroubleCodes$Check")), Cond.fieldLink RX2 11 "TroubleCodes" "checks" "[LTroubleCodes$Check;", Cond.methodLink RX2 46 yX2_isWithin, Cond.static yX2_isWithin, Cond.code yX2_isWithin cX2_isWithin 3 (some .boolean), Cond.methodLink RX2 123 yX2_codeBits, Cond.instanceMethod yX2_codeBits, Cond.selects RX2 yX2_codeBits yX2_codeBits, Cond.code yX2_codeBits cX2_codeBits 5 (some .int)]
def wsX2_test_r2 : List Cond := [Cond.fieldLink RX2 103 "TroubleCodes$Check" "code" "I", Cond.methodLink RX2 215 yX1_look, Cond.instanceMethod yX1_look, Cond.selects RX1 yX1_look yX1_look, Cond.initialized RX1, Cond.code yX1_look cX1_look 3 none, Cond.fieldLink RX1 40 "TroubleCodes$Workshop" "seenRan" "I", Cond.fieldLink RX1 43 "TroubleCodes$Workshop" "seenSet" "I", Cond.fieldLink RX1 18 "TroubleCodes$Workshop" "causeCount" "I", Cond.fieldLink RX1 46 "TroubleCodes$Workshop" "seenCauses" "I", Cond.fieldLink RX1 49 "TroubleCodes$Workshop" "planned" "Z", Cond.methodLink RX1 53 yX1_findLeast, Cond.instanceMethod yX1_findLeast, Cond.selects RX1 yX1_findLeast yX1_findLeast, Cond.code yX1_findLeast cX1_findLeast 4 none, Cond.fieldLink RX1 28 "TroubleCodes$Workshop" "leastCount" "I", Cond.fieldLink RX1 25 "TroubleCodes$Workshop" "least" "[I", Cond.methodLink RX1 56 yJ6_bitCount_0f7a4, Cond.static yJ6_bitCount_0f7a4, Cond.initialized RJ6, Cond.code yJ6_bitCount_0f7a4 cJ6_bitCount_0f7a4 1 (some .int), Cond.constant RJ6 265 (1431655765), Cond.constant RJ6 266 (858993459), Cond.constant RJ6 267 (252645135)]
def wsX2_test_r3 : List Cond := [Cond.methodLink RX1 62 yX1_isExplainedBy, Cond.instanceMethod yX1_isExplainedBy, Cond.selects RX1 yX1_isExplainedBy yX1_isExplainedBy, Cond.code yX1_isExplainedBy cX1_isExplainedBy 4 (some .boolean), Cond.fieldLink RX1 22 "TroubleCodes$Workshop" "madeBad" "[I", Cond.methodLink RX2 141 yX1_planTest, Cond.instanceMethod yX1_planTest, Cond.selects RX1 yX1_planTest yX1_planTest, Cond.code yX1_planTest cX1_planTest 1 (some .int), Cond.fieldLink RX1 37 "TroubleCodes$Workshop" "firstTest" "I", Cond.methodLink RX1 66 yX1_makePlan, Cond.instanceMethod yX1_makePlan, Cond.selects RX1 yX1_makePlan yX1_makePlan, Cond.code yX1_makePlan cX1_makePlan 2 none, Cond.fieldLink RX1 31 "TroubleCodes$Workshop" "holders" "[I", Cond.methodLink RX1 73 yX1_holdersOf, Cond.instanceMethod yX1_holdersOf, Cond.selects RX1 yX1_holdersOf yX1_holdersOf, Cond.code yX1_holdersOf cX1_holdersOf 4 (some .int), Cond.methodLink RX1 69 yX1_allLeast, Cond.instanceMethod yX1_allLeast, Cond.selects RX1 yX1_allLeast yX1_allLeast, Cond.code yX1_allLeast cX1_allLeast 1 (some .int), Cond.methodLink RX1 76 yX1_planFor]
def wsX2_test_r4 : List Cond := [Cond.instanceMethod yX1_planFor, Cond.selects RX1 yX1_planFor yX1_planFor, Cond.code yX1_planFor cX1_planFor 6 none, Cond.fieldLink RX1 15 "TroubleCodes$Workshop" "prices" "[I", Cond.fieldLink RX1 34 "TroubleCodes$Workshop" "sums" "[I"]
def wsX2_test : List Cond := .code yX2_test cX2_test 1 (some .int) :: ((wsX2_test_r1 ++ (wsX2_test_r2 ++ (wsX2_test_r3 ++ wsX2_test_r4))) ++ wsX20 ++ wsX00 ++ wsX10)
def wsX2_foretells : List Cond := .code yX2_foretells cX2_foretells 4 (some .int) :: ([.fieldLink RX2 144 "TroubleCodes$Check" "foretoldBy" "[I", .methodLink RX2 50 yX2_checkAt, .instanceMethod yX2_checkAt, .selects RX2 yX2_checkAt yX2_checkAt, .initialized RX2, .code yX2_checkAt cX2_checkAt 2 (some (.object "TroubleCodes$Check")), .fieldLink RX2 15 "TroubleCodes" "checkCount" "I", .fieldLink RX2 11 "TroubleCodes" "checks" "[LTroubleCodes$Check;", .methodLink RX2 46 yX2_isWithin, .static yX2_isWithin, .code yX2_isWithin cX2_isWithin 3 (some .boolean)] ++ wsX00 ++ wsX20)
def wsX2_sets : List Cond := .code yX2_sets cX2_sets 3 (some .int) :: ([.fieldLink RX2 147 "TroubleCodes$Check" "setDrives" "I", .methodLink RX2 50 yX2_checkAt, .instanceMethod yX2_checkAt, .selects RX2 yX2_checkAt yX2_checkAt, .initialized RX2, .code yX2_checkAt cX2_checkAt 2 (some (.object "TroubleCodes$Check")), .fieldLink RX2 15 "TroubleCodes" "checkCount" "I", .fieldLink RX2 11 "TroubleCodes" "checks" "[LTroubleCodes$Check;", .methodLink RX2 46 yX2_isWithin, .static yX2_isWithin, .code yX2_isWithin cX2_isWithin 3 (some .boolean)] ++ wsX00 ++ wsX20)
def wsX2_count_r1 : List Cond := [Cond.fieldLink RX2 15 "TroubleCodes" "checkCount" "I", Cond.fieldLink RX2 29 "TroubleCodes" "drivesEnded" "I", Cond.fieldLink RX2 42 "TroubleCodes" "workshop" "LTroubleCodes$Workshop;", Cond.fieldLink RX2 117 "TroubleCodes$Workshop" "causeCount" "I", Cond.fieldLink RX2 32 "TroubleCodes" "driving" "Z", Cond.methodLink RX2 123 yX2_codeBits, Cond.instanceMethod yX2_codeBits, Cond.selects RX2 yX2_codeBits yX2_codeBits, Cond.initialized RX2, Cond.code yX2_codeBits cX2_codeBits 5 (some .int), Cond.fieldLink RX2 103 "TroubleCodes$Check" "code" "I", Cond.methodLink RX2 50 yX2_checkAt, Cond.instanceMethod yX2_checkAt, Cond.selects RX2 yX2_checkAt yX2_checkAt, Cond.code yX2_checkAt cX2_checkAt 2 (some (.object "TroubleCodes$Check")), Cond.fieldLink RX2 11 "TroubleCodes" "checks" "[LTroubleCodes$Check;", Cond.methodLink RX2 46 yX2_isWithin, Cond.static yX2_isWithin, Cond.code yX2_isWithin cX2_isWithin 3 (some .boolean), Cond.methodLink RX2 150 yJ6_bitCount_0f7a4, Cond.static yJ6_bitCount_0f7a4, Cond.initialized RJ6, Cond.code yJ6_bitCount_0f7a4 cJ6_bitCount_0f7a4 1 (some .int), Cond.constant RJ6 265 (1431655765)]
def wsX2_count_r2 : List Cond := [Cond.constant RJ6 266 (858993459), Cond.constant RJ6 267 (252645135), Cond.methodLink RX2 69 yX2_frozenCount, Cond.instanceMethod yX2_frozenCount, Cond.selects RX2 yX2_frozenCount yX2_frozenCount, Cond.code yX2_frozenCount cX2_frozenCount 4 (some .int), Cond.methodLink RX2 90 yX0_isFrozen, Cond.instanceMethod yX0_isFrozen, Cond.selects RX0 yX0_isFrozen yX0_isFrozen, Cond.initialized RX0, Cond.code yX0_isFrozen cX0_isFrozen 1 (some .boolean), Cond.fieldLink RX0 31 "TroubleCodes$Check" "frozenDrive" "I", Cond.methodLink RX2 82 yX2_asNumber, Cond.static yX2_asNumber, Cond.code yX2_asNumber cX2_asNumber 1 (some .int)]
def wsX2_count : List Cond := .code yX2_count cX2_count 2 (some .int) :: ((wsX2_count_r1 ++ wsX2_count_r2) ++ wsX20 ++ wsX10 ++ wsX00)
def wsX2_digestOfCheck_r1 : List Cond := [Cond.constantLong RX2 157 (31), Cond.methodLink RX2 170 yX2_about, Cond.instanceMethod yX2_about, Cond.selects RX2 yX2_about yX2_about, Cond.initialized RX2, Cond.code yX2_about cX2_about 4 (some .int), Cond.methodLink RX2 50 yX2_checkAt, Cond.instanceMethod yX2_checkAt, Cond.selects RX2 yX2_checkAt yX2_checkAt, Cond.code yX2_checkAt cX2_checkAt 2 (some (.object "TroubleCodes$Check")), Cond.fieldLink RX2 15 "TroubleCodes" "checkCount" "I", Cond.fieldLink RX2 11 "TroubleCodes" "checks" "[LTroubleCodes$Check;", Cond.methodLink RX2 46 yX2_isWithin, Cond.static yX2_isWithin, Cond.code yX2_isWithin cX2_isWithin 3 (some .boolean), Cond.methodLink RX2 79 yX2_isHeldBack, Cond.instanceMethod yX2_isHeldBack, Cond.selects RX2 yX2_isHeldBack yX2_isHeldBack, Cond.code yX2_isHeldBack cX2_isHeldBack 3 (some .boolean), Cond.fieldLink RX2 182 "TroubleCodes$Check" "sort" "I", Cond.fieldLink RX2 185 "TroubleCodes$Check" "follows" "I", Cond.methodLink RX2 188 yX0_isTroubled, Cond.instanceMethod yX0_isTroubled, Cond.selects RX0 yX0_isTroubled yX0_isTroubled]
def wsX2_digestOfCheck_r2 : List Cond := [Cond.initialized RX0, Cond.code yX0_isTroubled cX0_isTroubled 1 (some .boolean), Cond.fieldLink RX0 11 "TroubleCodes$Check" "code" "I", Cond.methodLink RX2 82 yX2_asNumber, Cond.static yX2_asNumber, Cond.code yX2_asNumber cX2_asNumber 1 (some .int), Cond.methodLink RX2 86 yX0_numberOf, Cond.instanceMethod yX0_numberOf, Cond.selects RX0 yX0_numberOf yX0_numberOf, Cond.code yX0_numberOf cX0_numberOf 2 (some .int), Cond.fieldLink RX0 15 "TroubleCodes$Check" "badCount" "I", Cond.fieldLink RX0 18 "TroubleCodes$Check" "goodCount" "I", Cond.fieldLink RX0 21 "TroubleCodes$Check" "age" "I", Cond.fieldLink RX0 27 "TroubleCodes$Check" "ranSinceCleared" "Z", Cond.fieldLink RX0 47 "TroubleCodes$Check" "sort" "I", Cond.methodLink RX0 68 yX0_isFrozen, Cond.instanceMethod yX0_isFrozen, Cond.selects RX0 yX0_isFrozen yX0_isFrozen, Cond.code yX0_isFrozen cX0_isFrozen 1 (some .boolean), Cond.fieldLink RX0 31 "TroubleCodes$Check" "frozenDrive" "I", Cond.methodLink RX2 173 yX2_frozenAt, Cond.instanceMethod yX2_frozenAt, Cond.selects RX2 yX2_frozenAt yX2_frozenAt, Cond.code yX2_frozenAt cX2_frozenAt 3 (some .int)]
def wsX2_digestOfCheck_r3 : List Cond := [Cond.fieldLink RX2 97 "TroubleCodes$Check" "frozenDrive" "I", Cond.methodLink RX2 176 yX2_frozen, Cond.instanceMethod yX2_frozen, Cond.selects RX2 yX2_frozen yX2_frozen, Cond.code yX2_frozen cX2_frozen 4 (some .int), Cond.fieldLink RX2 94 "TroubleCodes$Check" "frozenFacts" "[I", Cond.methodLink RX2 90 yX0_isFrozen, Cond.methodLink RX2 179 yX2_sets, Cond.instanceMethod yX2_sets, Cond.selects RX2 yX2_sets yX2_sets, Cond.code yX2_sets cX2_sets 3 (some .int), Cond.fieldLink RX2 147 "TroubleCodes$Check" "setDrives" "I"]
def wsX2_digestOfCheck : List Cond := .code yX2_digestOfCheck cX2_digestOfCheck 7 (some .long) :: ((wsX2_digestOfCheck_r1 ++ (wsX2_digestOfCheck_r2 ++ wsX2_digestOfCheck_r3)) ++ wsX20 ++ wsX00)
def wsX2_digest_r1 : List Cond := [Cond.constantLong RX2 155 (211), Cond.constantLong RX2 157 (31), Cond.fieldLink RX2 15 "TroubleCodes" "checkCount" "I", Cond.fieldLink RX2 19 "TroubleCodes" "facts" "[I", Cond.fieldLink RX2 42 "TroubleCodes" "workshop" "LTroubleCodes$Workshop;", Cond.methodLink RX2 159 yX2_count, Cond.instanceMethod yX2_count, Cond.selects RX2 yX2_count yX2_count, Cond.initialized RX2, Cond.code yX2_count cX2_count 2 (some .int), Cond.fieldLink RX2 29 "TroubleCodes" "drivesEnded" "I", Cond.fieldLink RX2 117 "TroubleCodes$Workshop" "causeCount" "I", Cond.fieldLink RX2 32 "TroubleCodes" "driving" "Z", Cond.methodLink RX2 123 yX2_codeBits, Cond.instanceMethod yX2_codeBits, Cond.selects RX2 yX2_codeBits yX2_codeBits, Cond.code yX2_codeBits cX2_codeBits 5 (some .int), Cond.fieldLink RX2 103 "TroubleCodes$Check" "code" "I", Cond.methodLink RX2 50 yX2_checkAt, Cond.instanceMethod yX2_checkAt, Cond.selects RX2 yX2_checkAt yX2_checkAt, Cond.code yX2_checkAt cX2_checkAt 2 (some (.object "TroubleCodes$Check")), Cond.fieldLink RX2 11 "TroubleCodes" "checks" "[LTroubleCodes$Check;", Cond.methodLink RX2 46 yX2_isWithin]
def wsX2_digest_r2 : List Cond := [Cond.static yX2_isWithin, Cond.code yX2_isWithin cX2_isWithin 3 (some .boolean), Cond.methodLink RX2 150 yJ6_bitCount_0f7a4, Cond.static yJ6_bitCount_0f7a4, Cond.initialized RJ6, Cond.code yJ6_bitCount_0f7a4 cJ6_bitCount_0f7a4 1 (some .int), Cond.constant RJ6 265 (1431655765), Cond.constant RJ6 266 (858993459), Cond.constant RJ6 267 (252645135), Cond.methodLink RX2 69 yX2_frozenCount, Cond.instanceMethod yX2_frozenCount, Cond.selects RX2 yX2_frozenCount yX2_frozenCount, Cond.code yX2_frozenCount cX2_frozenCount 4 (some .int), Cond.methodLink RX2 90 yX0_isFrozen, Cond.instanceMethod yX0_isFrozen, Cond.selects RX0 yX0_isFrozen yX0_isFrozen, Cond.initialized RX0, Cond.code yX0_isFrozen cX0_isFrozen 1 (some .boolean), Cond.fieldLink RX0 31 "TroubleCodes$Check" "frozenDrive" "I", Cond.methodLink RX2 82 yX2_asNumber, Cond.static yX2_asNumber, Cond.code yX2_asNumber cX2_asNumber 1 (some .int), Cond.methodLink RX2 162 yX2_digestOfCheck, Cond.instanceMethod yX2_digestOfCheck]
def wsX2_digest_r3 : List Cond := [Cond.selects RX2 yX2_digestOfCheck yX2_digestOfCheck, Cond.code yX2_digestOfCheck cX2_digestOfCheck 7 (some .long), Cond.methodLink RX2 170 yX2_about, Cond.instanceMethod yX2_about, Cond.selects RX2 yX2_about yX2_about, Cond.code yX2_about cX2_about 4 (some .int), Cond.methodLink RX2 79 yX2_isHeldBack, Cond.instanceMethod yX2_isHeldBack, Cond.selects RX2 yX2_isHeldBack yX2_isHeldBack, Cond.code yX2_isHeldBack cX2_isHeldBack 3 (some .boolean), Cond.fieldLink RX2 182 "TroubleCodes$Check" "sort" "I", Cond.fieldLink RX2 185 "TroubleCodes$Check" "follows" "I", Cond.methodLink RX2 188 yX0_isTroubled, Cond.instanceMethod yX0_isTroubled, Cond.selects RX0 yX0_isTroubled yX0_isTroubled, Cond.code yX0_isTroubled cX0_isTroubled 1 (some .boolean), Cond.fieldLink RX0 11 "TroubleCodes$Check" "code" "I", Cond.methodLink RX2 86 yX0_numberOf, Cond.instanceMethod yX0_numberOf, Cond.selects RX0 yX0_numberOf yX0_numberOf, Cond.code yX0_numberOf cX0_numberOf 2 (some .int), Cond.fieldLink RX0 15 "TroubleCodes$Check" "badCount" "I", Cond.fieldLink RX0 18 "TroubleCodes$Check" "goodCount" "I", Cond.fieldLink RX0 21 "TroubleCodes$Check" "age" "I"]
def wsX2_digest_r4 : List Cond := [Cond.fieldLink RX0 27 "TroubleCodes$Check" "ranSinceCleared" "Z", Cond.fieldLink RX0 47 "TroubleCodes$Check" "sort" "I", Cond.methodLink RX0 68 yX0_isFrozen, Cond.methodLink RX2 173 yX2_frozenAt, Cond.instanceMethod yX2_frozenAt, Cond.selects RX2 yX2_frozenAt yX2_frozenAt, Cond.code yX2_frozenAt cX2_frozenAt 3 (some .int), Cond.fieldLink RX2 97 "TroubleCodes$Check" "frozenDrive" "I", Cond.methodLink RX2 176 yX2_frozen, Cond.instanceMethod yX2_frozen, Cond.selects RX2 yX2_frozen yX2_frozen, Cond.code yX2_frozen cX2_frozen 4 (some .int), Cond.fieldLink RX2 94 "TroubleCodes$Check" "frozenFacts" "[I", Cond.methodLink RX2 179 yX2_sets, Cond.instanceMethod yX2_sets, Cond.selects RX2 yX2_sets yX2_sets, Cond.code yX2_sets cX2_sets 3 (some .int), Cond.fieldLink RX2 147 "TroubleCodes$Check" "setDrives" "I", Cond.methodLink RX2 166 yX1_digestFrom, Cond.instanceMethod yX1_digestFrom, Cond.selects RX1 yX1_digestFrom yX1_digestFrom, Cond.initialized RX1, Cond.code yX1_digestFrom cX1_digestFrom 6 (some .long), Cond.fieldLink RX1 18 "TroubleCodes$Workshop" "causeCount" "I"]
def wsX2_digest_r5 : List Cond := [Cond.constantLong RX1 80 (31), Cond.fieldLink RX1 11 "TroubleCodes$Workshop" "causeChecks" "[I", Cond.fieldLink RX1 15 "TroubleCodes$Workshop" "prices" "[I"]
def wsX2_digest : List Cond := .code yX2_digest cX2_digest 4 (some .long) :: ((wsX2_digest_r1 ++ (wsX2_digest_r2 ++ (wsX2_digest_r3 ++ (wsX2_digest_r4 ++ wsX2_digest_r5)))) ++ wsX20 ++ wsX10 ++ wsX00)
def wsX3_init_r1 : List Cond := [Cond.methodLink RX3 1 objectInit, Cond.instanceMethod objectInit, Cond.code objectInit ⟨#[0xb1]⟩ 1 none, Cond.arrayClass .int, Cond.fieldLink RX3 7 "TroubleCodesModel" "sort" "[I", Cond.fieldLink RX3 13 "TroubleCodesModel" "follows" "[I", Cond.fieldLink RX3 16 "TroubleCodesModel" "badAt" "[I", Cond.fieldLink RX3 19 "TroubleCodesModel" "goodAt" "[I", Cond.fieldLink RX3 22 "TroubleCodesModel" "ageAt" "[I", Cond.fieldLink RX3 25 "TroubleCodesModel" "weight" "[I", Cond.arrayClass .boolean, Cond.fieldLink RX3 28 "TroubleCodesModel" "hasLamp" "[Z", Cond.fieldLink RX3 32 "TroubleCodesModel" "code" "[I", Cond.fieldLink RX3 35 "TroubleCodesModel" "bads" "[I", Cond.fieldLink RX3 38 "TroubleCodesModel" "goods" "[I", Cond.fieldLink RX3 41 "TroubleCodesModel" "age" "[I", Cond.fieldLink RX3 44 "TroubleCodesModel" "hasRun" "[Z", Cond.fieldLink RX3 47 "TroubleCodesModel" "begun" "[I", Cond.fieldLink RX3 50 "TroubleCodesModel" "told" "[I", Cond.fieldLink RX3 53 "TroubleCodesModel" "sets" "[I", Cond.fieldLink RX3 56 "TroubleCodesModel" "foretold" "[I", Cond.fieldLink RX3 59 "TroubleCodesModel" "fact" "[I", Cond.fieldLink RX3 62 "TroubleCodesModel" "room" "I", Cond.fieldLink RX3 66 "TroubleCodesModel" "isFrozen" "[Z"]
def wsX3_init_r2 : List Cond := [Cond.fieldLink RX3 69 "TroubleCodesModel" "frozenFact" "[I", Cond.fieldLink RX3 72 "TroubleCodesModel" "frozenDrive" "[I", Cond.fieldLink RX3 75 "TroubleCodesModel" "frozenTurn" "[I", Cond.fieldLink RX3 78 "TroubleCodesModel" "makes" "[I", Cond.fieldLink RX3 81 "TroubleCodesModel" "price" "[I", Cond.fieldLink RX3 84 "TroubleCodesModel" "list" "[I", Cond.fieldLink RX3 87 "TroubleCodesModel" "sum" "[I", Cond.fieldLink RX3 90 "TroubleCodesModel" "first" "[I"]
def wsX3_init : List Cond := .code yX3_init cX3_init 1 none :: ((wsX3_init_r1 ++ wsX3_init_r2) ++ wsX30)
def wsX3_in : List Cond := .code yX3_in cX3_in 3 (some .boolean) :: ([])
def wsX3_isCheck : List Cond := .code yX3_isCheck cX3_isCheck 2 (some .boolean) :: ([.fieldLink RX3 93 "TroubleCodesModel" "checks" "I", .methodLink RX3 96 yX3_in, .static yX3_in, .initialized RX3, .code yX3_in cX3_in 3 (some .boolean)] ++ wsX30)
def wsX3_check : List Cond := .code yX3_check cX3_check 8 (some .int) :: ([.fieldLink RX3 104 "TroubleCodesModel" "goes" "Z", .fieldLink RX3 93 "TroubleCodesModel" "checks" "I", .fieldLink RX3 7 "TroubleCodesModel" "sort" "[I", .fieldLink RX3 13 "TroubleCodesModel" "follows" "[I", .fieldLink RX3 16 "TroubleCodesModel" "badAt" "[I", .fieldLink RX3 19 "TroubleCodesModel" "goodAt" "[I", .fieldLink RX3 22 "TroubleCodesModel" "ageAt" "[I", .fieldLink RX3 25 "TroubleCodesModel" "weight" "[I", .fieldLink RX3 28 "TroubleCodesModel" "hasLamp" "[Z", .methodLink RX3 96 yX3_in, .static yX3_in, .initialized RX3, .code yX3_in cX3_in 3 (some .boolean), .methodLink RX3 100 yX3_isCheck, .instanceMethod yX3_isCheck, .selects RX3 yX3_isCheck yX3_isCheck, .code yX3_isCheck cX3_isCheck 2 (some .boolean)] ++ wsX30)
def wsX3_begin : List Cond := .code yX3_begin cX3_begin 2 (some .int) :: ([.fieldLink RX3 104 "TroubleCodesModel" "goes" "Z", .fieldLink RX3 93 "TroubleCodesModel" "checks" "I", .fieldLink RX3 47 "TroubleCodesModel" "begun" "[I", .fieldLink RX3 32 "TroubleCodesModel" "code" "[I", .fieldLink RX3 50 "TroubleCodesModel" "told" "[I", .fieldLink RX3 108 "TroubleCodesModel" "drives" "I"] ++ wsX30)
def wsX3_ran : List Cond := .code yX3_ran cX3_ran 3 (some .int) :: ([.fieldLink RX3 104 "TroubleCodesModel" "goes" "Z", .fieldLink RX3 50 "TroubleCodesModel" "told" "[I", .methodLink RX3 100 yX3_isCheck, .instanceMethod yX3_isCheck, .selects RX3 yX3_isCheck yX3_isCheck, .initialized RX3, .code yX3_isCheck cX3_isCheck 2 (some .boolean), .fieldLink RX3 93 "TroubleCodesModel" "checks" "I", .methodLink RX3 96 yX3_in, .static yX3_in, .code yX3_in cX3_in 3 (some .boolean)] ++ wsX30)
def wsX3_isHeld : List Cond := .code yX3_isHeld cX3_isHeld 2 (some .boolean) :: ([.fieldLink RX3 7 "TroubleCodesModel" "sort" "[I", .fieldLink RX3 32 "TroubleCodesModel" "code" "[I", .fieldLink RX3 13 "TroubleCodesModel" "follows" "[I"] ++ wsX30)
def wsX3_manyFrozen : List Cond := .code yX3_manyFrozen cX3_manyFrozen 3 (some .int) :: ([.fieldLink RX3 93 "TroubleCodesModel" "checks" "I", .fieldLink RX3 66 "TroubleCodesModel" "isFrozen" "[Z"] ++ wsX30)
def wsX3_leastFrozen : List Cond := .code yX3_leastFrozen cX3_leastFrozen 3 (some .int) :: ([.fieldLink RX3 93 "TroubleCodesModel" "checks" "I", .fieldLink RX3 66 "TroubleCodesModel" "isFrozen" "[Z", .fieldLink RX3 7 "TroubleCodesModel" "sort" "[I", .fieldLink RX3 25 "TroubleCodesModel" "weight" "[I", .fieldLink RX3 75 "TroubleCodesModel" "frozenTurn" "[I"] ++ wsX30)
def wsX3_freezes : List Cond := .code yX3_freezes cX3_freezes 3 none :: ([.fieldLink RX3 66 "TroubleCodesModel" "isFrozen" "[Z", .fieldLink RX3 72 "TroubleCodesModel" "frozenDrive" "[I", .fieldLink RX3 108 "TroubleCodesModel" "drives" "I", .fieldLink RX3 75 "TroubleCodesModel" "frozenTurn" "[I", .fieldLink RX3 111 "TroubleCodesModel" "turns" "I", .fieldLink RX3 69 "TroubleCodesModel" "frozenFact" "[I", .fieldLink RX3 59 "TroubleCodesModel" "fact" "[I", .fieldLink RX3 62 "TroubleCodesModel" "room" "I", .methodLink RX3 114 yX3_manyFrozen, .instanceMethod yX3_manyFrozen, .selects RX3 yX3_manyFrozen yX3_manyFrozen, .initialized RX3, .code yX3_manyFrozen cX3_manyFrozen 3 (some .int), .fieldLink RX3 93 "TroubleCodesModel" "checks" "I", .methodLink RX3 118 yX3_leastFrozen, .instanceMethod yX3_leastFrozen, .selects RX3 yX3_leastFrozen yX3_leastFrozen, .code yX3_leastFrozen cX3_leastFrozen 3 (some .int), .fieldLink RX3 7 "TroubleCodesModel" "sort" "[I", .fieldLink RX3 25 "TroubleCodesModel" "weight" "[I"] ++ wsX30)
def wsX3_room : List Cond := .code yX3_room cX3_room 3 (some .int) :: ([.fieldLink RX3 62 "TroubleCodesModel" "room" "I", .fieldLink RX3 66 "TroubleCodesModel" "isFrozen" "[Z", .methodLink RX3 96 yX3_in, .static yX3_in, .initialized RX3, .code yX3_in cX3_in 3 (some .boolean), .methodLink RX3 114 yX3_manyFrozen, .instanceMethod yX3_manyFrozen, .selects RX3 yX3_manyFrozen yX3_manyFrozen, .code yX3_manyFrozen cX3_manyFrozen 3 (some .int), .fieldLink RX3 93 "TroubleCodesModel" "checks" "I", .methodLink RX3 118 yX3_leastFrozen, .instanceMethod yX3_leastFrozen, .selects RX3 yX3_leastFrozen yX3_leastFrozen, .code yX3_leastFrozen cX3_leastFrozen 3 (some .int), .fieldLink RX3 7 "TroubleCodesModel" "sort" "[I", .fieldLink RX3 25 "TroubleCodesModel" "weight" "[I", .fieldLink RX3 75 "TroubleCodesModel" "frozenTurn" "[I"] ++ wsX30)
def wsX3_wasBad_r1 : List Cond := [Cond.fieldLink RX3 38 "TroubleCodesModel" "goods" "[I", Cond.fieldLink RX3 41 "TroubleCodesModel" "age" "[I", Cond.fieldLink RX3 35 "TroubleCodesModel" "bads" "[I", Cond.fieldLink RX3 32 "TroubleCodesModel" "code" "[I", Cond.fieldLink RX3 16 "TroubleCodesModel" "badAt" "[I", Cond.fieldLink RX3 53 "TroubleCodesModel" "sets" "[I", Cond.fieldLink RX3 93 "TroubleCodesModel" "checks" "I", Cond.fieldLink RX3 56 "TroubleCodesModel" "foretold" "[I", Cond.fieldLink RX3 47 "TroubleCodesModel" "begun" "[I", Cond.methodLink RX3 121 yX3_isHeld, Cond.instanceMethod yX3_isHeld, Cond.selects RX3 yX3_isHeld yX3_isHeld, Cond.initialized RX3, Cond.code yX3_isHeld cX3_isHeld 2 (some .boolean), Cond.fieldLink RX3 7 "TroubleCodesModel" "sort" "[I", Cond.fieldLink RX3 13 "TroubleCodesModel" "follows" "[I", Cond.methodLink RX3 124 yX3_freezes, Cond.instanceMethod yX3_freezes, Cond.selects RX3 yX3_freezes yX3_freezes, Cond.code yX3_freezes cX3_freezes 3 none, Cond.fieldLink RX3 66 "TroubleCodesModel" "isFrozen" "[Z", Cond.fieldLink RX3 72 "TroubleCodesModel" "frozenDrive" "[I", Cond.fieldLink RX3 108 "TroubleCodesModel" "drives" "I", Cond.fieldLink RX3 75 "TroubleCodesModel" "frozenTurn" "[I"]
def wsX3_wasBad_r2 : List Cond := [Cond.fieldLink RX3 111 "TroubleCodesModel" "turns" "I", Cond.fieldLink RX3 69 "TroubleCodesModel" "frozenFact" "[I", Cond.fieldLink RX3 59 "TroubleCodesModel" "fact" "[I", Cond.fieldLink RX3 62 "TroubleCodesModel" "room" "I", Cond.methodLink RX3 114 yX3_manyFrozen, Cond.instanceMethod yX3_manyFrozen, Cond.selects RX3 yX3_manyFrozen yX3_manyFrozen, Cond.code yX3_manyFrozen cX3_manyFrozen 3 (some .int), Cond.methodLink RX3 118 yX3_leastFrozen, Cond.instanceMethod yX3_leastFrozen, Cond.selects RX3 yX3_leastFrozen yX3_leastFrozen, Cond.code yX3_leastFrozen cX3_leastFrozen 3 (some .int), Cond.fieldLink RX3 25 "TroubleCodesModel" "weight" "[I"]
def wsX3_wasBad : List Cond := .code yX3_wasBad cX3_wasBad 4 none :: ((wsX3_wasBad_r1 ++ wsX3_wasBad_r2) ++ wsX30)
def wsX3_wasGood : List Cond := .code yX3_wasGood cX3_wasGood 2 none :: ([.fieldLink RX3 35 "TroubleCodesModel" "bads" "[I", .fieldLink RX3 38 "TroubleCodesModel" "goods" "[I", .fieldLink RX3 32 "TroubleCodesModel" "code" "[I", .fieldLink RX3 19 "TroubleCodesModel" "goodAt" "[I", .fieldLink RX3 41 "TroubleCodesModel" "age" "[I"] ++ wsX30)
def wsX3_ages : List Cond := .code yX3_ages cX3_ages 2 none :: ([.fieldLink RX3 41 "TroubleCodesModel" "age" "[I", .fieldLink RX3 7 "TroubleCodesModel" "sort" "[I", .fieldLink RX3 22 "TroubleCodesModel" "ageAt" "[I", .fieldLink RX3 32 "TroubleCodesModel" "code" "[I", .fieldLink RX3 66 "TroubleCodesModel" "isFrozen" "[Z"] ++ wsX30)
def wsX3_end_r1 : List Cond := [Cond.fieldLink RX3 104 "TroubleCodesModel" "goes" "Z", Cond.fieldLink RX3 93 "TroubleCodesModel" "checks" "I", Cond.fieldLink RX3 53 "TroubleCodesModel" "sets" "[I", Cond.fieldLink RX3 44 "TroubleCodesModel" "hasRun" "[Z", Cond.fieldLink RX3 50 "TroubleCodesModel" "told" "[I", Cond.fieldLink RX3 32 "TroubleCodesModel" "code" "[I", Cond.fieldLink RX3 108 "TroubleCodesModel" "drives" "I", Cond.methodLink RX3 128 yX3_wasBad, Cond.instanceMethod yX3_wasBad, Cond.selects RX3 yX3_wasBad yX3_wasBad, Cond.initialized RX3, Cond.code yX3_wasBad cX3_wasBad 4 none, Cond.fieldLink RX3 38 "TroubleCodesModel" "goods" "[I", Cond.fieldLink RX3 41 "TroubleCodesModel" "age" "[I", Cond.fieldLink RX3 35 "TroubleCodesModel" "bads" "[I", Cond.fieldLink RX3 16 "TroubleCodesModel" "badAt" "[I", Cond.fieldLink RX3 56 "TroubleCodesModel" "foretold" "[I", Cond.fieldLink RX3 47 "TroubleCodesModel" "begun" "[I", Cond.methodLink RX3 121 yX3_isHeld, Cond.instanceMethod yX3_isHeld, Cond.selects RX3 yX3_isHeld yX3_isHeld, Cond.code yX3_isHeld cX3_isHeld 2 (some .boolean), Cond.fieldLink RX3 7 "TroubleCodesModel" "sort" "[I", Cond.fieldLink RX3 13 "TroubleCodesModel" "follows" "[I"]
def wsX3_end_r2 : List Cond := [Cond.methodLink RX3 124 yX3_freezes, Cond.instanceMethod yX3_freezes, Cond.selects RX3 yX3_freezes yX3_freezes, Cond.code yX3_freezes cX3_freezes 3 none, Cond.fieldLink RX3 66 "TroubleCodesModel" "isFrozen" "[Z", Cond.fieldLink RX3 72 "TroubleCodesModel" "frozenDrive" "[I", Cond.fieldLink RX3 75 "TroubleCodesModel" "frozenTurn" "[I", Cond.fieldLink RX3 111 "TroubleCodesModel" "turns" "I", Cond.fieldLink RX3 69 "TroubleCodesModel" "frozenFact" "[I", Cond.fieldLink RX3 59 "TroubleCodesModel" "fact" "[I", Cond.fieldLink RX3 62 "TroubleCodesModel" "room" "I", Cond.methodLink RX3 114 yX3_manyFrozen, Cond.instanceMethod yX3_manyFrozen, Cond.selects RX3 yX3_manyFrozen yX3_manyFrozen, Cond.code yX3_manyFrozen cX3_manyFrozen 3 (some .int), Cond.methodLink RX3 118 yX3_leastFrozen, Cond.instanceMethod yX3_leastFrozen, Cond.selects RX3 yX3_leastFrozen yX3_leastFrozen, Cond.code yX3_leastFrozen cX3_leastFrozen 3 (some .int), Cond.fieldLink RX3 25 "TroubleCodesModel" "weight" "[I", Cond.methodLink RX3 131 yX3_wasGood, Cond.instanceMethod yX3_wasGood, Cond.selects RX3 yX3_wasGood yX3_wasGood, Cond.code yX3_wasGood cX3_wasGood 2 none]
def wsX3_end_r3 : List Cond := [Cond.fieldLink RX3 19 "TroubleCodesModel" "goodAt" "[I", Cond.methodLink RX3 134 yX3_ages, Cond.instanceMethod yX3_ages, Cond.selects RX3 yX3_ages yX3_ages, Cond.code yX3_ages cX3_ages 2 none, Cond.fieldLink RX3 22 "TroubleCodesModel" "ageAt" "[I"]
def wsX3_end : List Cond := .code yX3_end cX3_end 4 (some .int) :: ((wsX3_end_r1 ++ (wsX3_end_r2 ++ wsX3_end_r3)) ++ wsX30)
def wsX3_fact : List Cond := .code yX3_fact cX3_fact 4 (some .int) :: ([.fieldLink RX3 59 "TroubleCodesModel" "fact" "[I", .methodLink RX3 96 yX3_in, .static yX3_in, .initialized RX3, .code yX3_in cX3_in 3 (some .boolean)] ++ wsX30)
def wsX3_aboutOf : List Cond := .code yX3_aboutOf cX3_aboutOf 3 (some .int) :: ([.fieldLink RX3 32 "TroubleCodesModel" "code" "[I", .fieldLink RX3 35 "TroubleCodesModel" "bads" "[I", .fieldLink RX3 38 "TroubleCodesModel" "goods" "[I", .fieldLink RX3 41 "TroubleCodesModel" "age" "[I", .fieldLink RX3 66 "TroubleCodesModel" "isFrozen" "[Z", .fieldLink RX3 44 "TroubleCodesModel" "hasRun" "[Z", .fieldLink RX3 7 "TroubleCodesModel" "sort" "[I", .methodLink RX3 121 yX3_isHeld, .instanceMethod yX3_isHeld, .selects RX3 yX3_isHeld yX3_isHeld, .initialized RX3, .code yX3_isHeld cX3_isHeld 2 (some .boolean), .fieldLink RX3 13 "TroubleCodesModel" "follows" "[I"] ++ wsX30)
def wsX3_about_r1 : List Cond := [Cond.methodLink RX3 100 yX3_isCheck, Cond.instanceMethod yX3_isCheck, Cond.selects RX3 yX3_isCheck yX3_isCheck, Cond.initialized RX3, Cond.code yX3_isCheck cX3_isCheck 2 (some .boolean), Cond.fieldLink RX3 93 "TroubleCodesModel" "checks" "I", Cond.methodLink RX3 96 yX3_in, Cond.static yX3_in, Cond.code yX3_in cX3_in 3 (some .boolean), Cond.methodLink RX3 137 yX3_aboutOf, Cond.instanceMethod yX3_aboutOf, Cond.selects RX3 yX3_aboutOf yX3_aboutOf, Cond.code yX3_aboutOf cX3_aboutOf 3 (some .int), Cond.fieldLink RX3 32 "TroubleCodesModel" "code" "[I", Cond.fieldLink RX3 35 "TroubleCodesModel" "bads" "[I", Cond.fieldLink RX3 38 "TroubleCodesModel" "goods" "[I", Cond.fieldLink RX3 41 "TroubleCodesModel" "age" "[I", Cond.fieldLink RX3 66 "TroubleCodesModel" "isFrozen" "[Z", Cond.fieldLink RX3 44 "TroubleCodesModel" "hasRun" "[Z", Cond.fieldLink RX3 7 "TroubleCodesModel" "sort" "[I", Cond.methodLink RX3 121 yX3_isHeld, Cond.instanceMethod yX3_isHeld, Cond.selects RX3 yX3_isHeld yX3_isHeld, Cond.code yX3_isHeld cX3_isHeld 2 (some .boolean)]
def wsX3_about_r2 : List Cond := [Cond.fieldLink RX3 13 "TroubleCodesModel" "follows" "[I"]
def wsX3_about : List Cond := .code yX3_about cX3_about 3 (some .int) :: ((wsX3_about_r1 ++ wsX3_about_r2) ++ wsX30)
def wsX3_frozen : List Cond := .code yX3_frozen cX3_frozen 3 (some .int) :: ([.fieldLink RX3 66 "TroubleCodesModel" "isFrozen" "[Z", .fieldLink RX3 69 "TroubleCodesModel" "frozenFact" "[I", .methodLink RX3 100 yX3_isCheck, .instanceMethod yX3_isCheck, .selects RX3 yX3_isCheck yX3_isCheck, .initialized RX3, .code yX3_isCheck cX3_isCheck 2 (some .boolean), .fieldLink RX3 93 "TroubleCodesModel" "checks" "I", .methodLink RX3 96 yX3_in, .static yX3_in, .code yX3_in cX3_in 3 (some .boolean)] ++ wsX30)
def wsX3_frozenAt : List Cond := .code yX3_frozenAt cX3_frozenAt 2 (some .int) :: ([.fieldLink RX3 66 "TroubleCodesModel" "isFrozen" "[Z", .fieldLink RX3 72 "TroubleCodesModel" "frozenDrive" "[I", .methodLink RX3 100 yX3_isCheck, .instanceMethod yX3_isCheck, .selects RX3 yX3_isCheck yX3_isCheck, .initialized RX3, .code yX3_isCheck cX3_isCheck 2 (some .boolean), .fieldLink RX3 93 "TroubleCodesModel" "checks" "I", .methodLink RX3 96 yX3_in, .static yX3_in, .code yX3_in cX3_in 3 (some .boolean)] ++ wsX30)
def wsX3_lamp : List Cond := .code yX3_lamp cX3_lamp 2 (some .int) :: ([.fieldLink RX3 93 "TroubleCodesModel" "checks" "I", .fieldLink RX3 28 "TroubleCodesModel" "hasLamp" "[Z", .fieldLink RX3 32 "TroubleCodesModel" "code" "[I"] ++ wsX30)
def wsX3_clear : List Cond := .code yX3_clear cX3_clear 3 (some .int) :: ([.fieldLink RX3 104 "TroubleCodesModel" "goes" "Z", .fieldLink RX3 93 "TroubleCodesModel" "checks" "I", .fieldLink RX3 35 "TroubleCodesModel" "bads" "[I", .fieldLink RX3 38 "TroubleCodesModel" "goods" "[I", .fieldLink RX3 41 "TroubleCodesModel" "age" "[I", .fieldLink RX3 44 "TroubleCodesModel" "hasRun" "[Z", .fieldLink RX3 7 "TroubleCodesModel" "sort" "[I", .fieldLink RX3 32 "TroubleCodesModel" "code" "[I", .fieldLink RX3 66 "TroubleCodesModel" "isFrozen" "[Z"] ++ wsX30)
def wsX3_cause : List Cond := .code yX3_cause cX3_cause 3 (some .int) :: ([.fieldLink RX3 93 "TroubleCodesModel" "checks" "I", .fieldLink RX3 141 "TroubleCodesModel" "causes" "I", .fieldLink RX3 78 "TroubleCodesModel" "makes" "[I", .fieldLink RX3 81 "TroubleCodesModel" "price" "[I", .methodLink RX3 96 yX3_in, .static yX3_in, .initialized RX3, .code yX3_in cX3_in 3 (some .boolean)] ++ wsX30)
def wsX3_doesExplain : List Cond := .code yX3_doesExplain cX3_doesExplain 5 (some .boolean) :: ([.fieldLink RX3 141 "TroubleCodesModel" "causes" "I", .fieldLink RX3 78 "TroubleCodesModel" "makes" "[I", .fieldLink RX3 93 "TroubleCodesModel" "checks" "I", .fieldLink RX3 44 "TroubleCodesModel" "hasRun" "[Z", .fieldLink RX3 32 "TroubleCodesModel" "code" "[I"] ++ wsX30)
def wsX3_explains : List Cond := .code yX3_explains cX3_explains 2 (some .int) :: ([.fieldLink RX3 141 "TroubleCodesModel" "causes" "I", .methodLink RX3 96 yX3_in, .static yX3_in, .initialized RX3, .code yX3_in cX3_in 3 (some .boolean), .methodLink RX3 144 yX3_doesExplain, .instanceMethod yX3_doesExplain, .selects RX3 yX3_doesExplain yX3_doesExplain, .code yX3_doesExplain cX3_doesExplain 5 (some .boolean), .fieldLink RX3 78 "TroubleCodesModel" "makes" "[I", .fieldLink RX3 93 "TroubleCodesModel" "checks" "I", .fieldLink RX3 44 "TroubleCodesModel" "hasRun" "[Z", .fieldLink RX3 32 "TroubleCodesModel" "code" "[I"] ++ wsX30)
def wsX3_many : List Cond := .code yX3_many cX3_many 3 (some .int) :: ([])
def wsX3_findLeast : List Cond := .code yX3_findLeast cX3_findLeast 3 none :: ([.fieldLink RX3 147 "TroubleCodesModel" "listed" "I", .fieldLink RX3 141 "TroubleCodesModel" "causes" "I", .fieldLink RX3 84 "TroubleCodesModel" "list" "[I", .methodLink RX3 144 yX3_doesExplain, .instanceMethod yX3_doesExplain, .selects RX3 yX3_doesExplain yX3_doesExplain, .initialized RX3, .code yX3_doesExplain cX3_doesExplain 5 (some .boolean), .fieldLink RX3 78 "TroubleCodesModel" "makes" "[I", .fieldLink RX3 93 "TroubleCodesModel" "checks" "I", .fieldLink RX3 44 "TroubleCodesModel" "hasRun" "[Z", .fieldLink RX3 32 "TroubleCodesModel" "code" "[I", .methodLink RX3 150 yX3_many, .static yX3_many, .code yX3_many cX3_many 3 (some .int)] ++ wsX30)
def wsX3_least : List Cond := .code yX3_least cX3_least 1 (some .int) :: ([.fieldLink RX3 147 "TroubleCodesModel" "listed" "I", .methodLink RX3 154 yX3_findLeast, .instanceMethod yX3_findLeast, .selects RX3 yX3_findLeast yX3_findLeast, .initialized RX3, .code yX3_findLeast cX3_findLeast 3 none, .fieldLink RX3 141 "TroubleCodesModel" "causes" "I", .fieldLink RX3 84 "TroubleCodesModel" "list" "[I", .methodLink RX3 144 yX3_doesExplain, .instanceMethod yX3_doesExplain, .selects RX3 yX3_doesExplain yX3_doesExplain, .code yX3_doesExplain cX3_doesExplain 5 (some .boolean), .fieldLink RX3 78 "TroubleCodesModel" "makes" "[I", .fieldLink RX3 93 "TroubleCodesModel" "checks" "I", .fieldLink RX3 44 "TroubleCodesModel" "hasRun" "[Z", .fieldLink RX3 32 "TroubleCodesModel" "code" "[I", .methodLink RX3 150 yX3_many, .static yX3_many, .code yX3_many cX3_many 3 (some .int)] ++ wsX30)
def wsX3_leastAt : List Cond := .code yX3_leastAt cX3_leastAt 2 (some .int) :: ([.fieldLink RX3 147 "TroubleCodesModel" "listed" "I", .fieldLink RX3 84 "TroubleCodesModel" "list" "[I", .methodLink RX3 154 yX3_findLeast, .instanceMethod yX3_findLeast, .selects RX3 yX3_findLeast yX3_findLeast, .initialized RX3, .code yX3_findLeast cX3_findLeast 3 none, .fieldLink RX3 141 "TroubleCodesModel" "causes" "I", .methodLink RX3 144 yX3_doesExplain, .instanceMethod yX3_doesExplain, .selects RX3 yX3_doesExplain yX3_doesExplain, .code yX3_doesExplain cX3_doesExplain 5 (some .boolean), .fieldLink RX3 78 "TroubleCodesModel" "makes" "[I", .fieldLink RX3 93 "TroubleCodesModel" "checks" "I", .fieldLink RX3 44 "TroubleCodesModel" "hasRun" "[Z", .fieldLink RX3 32 "TroubleCodesModel" "code" "[I", .methodLink RX3 150 yX3_many, .static yX3_many, .code yX3_many cX3_many 3 (some .int), .methodLink RX3 96 yX3_in, .static yX3_in, .code yX3_in cX3_in 3 (some .boolean)] ++ wsX30)
def wsX3_with : List Cond := .code yX3_with cX3_with 5 (some .int) :: ([.fieldLink RX3 147 "TroubleCodesModel" "listed" "I", .fieldLink RX3 84 "TroubleCodesModel" "list" "[I"] ++ wsX30)
def wsX3_plans : List Cond := .code yX3_plans cX3_plans 5 none :: ([.fieldLink RX3 147 "TroubleCodesModel" "listed" "I", .fieldLink RX3 87 "TroubleCodesModel" "sum" "[I", .fieldLink RX3 90 "TroubleCodesModel" "first" "[I", .fieldLink RX3 141 "TroubleCodesModel" "causes" "I", .fieldLink RX3 81 "TroubleCodesModel" "price" "[I", .methodLink RX3 150 yX3_many, .static yX3_many, .initialized RX3, .code yX3_many cX3_many 3 (some .int), .methodLink RX3 157 yX3_with, .instanceMethod yX3_with, .selects RX3 yX3_with yX3_with, .code yX3_with cX3_with 5 (some .int), .fieldLink RX3 84 "TroubleCodesModel" "list" "[I"] ++ wsX30)
def wsX3_plan_r1 : List Cond := [Cond.fieldLink RX3 147 "TroubleCodesModel" "listed" "I", Cond.fieldLink RX3 87 "TroubleCodesModel" "sum" "[I", Cond.methodLink RX3 154 yX3_findLeast, Cond.instanceMethod yX3_findLeast, Cond.selects RX3 yX3_findLeast yX3_findLeast, Cond.initialized RX3, Cond.code yX3_findLeast cX3_findLeast 3 none, Cond.fieldLink RX3 141 "TroubleCodesModel" "causes" "I", Cond.fieldLink RX3 84 "TroubleCodesModel" "list" "[I", Cond.methodLink RX3 144 yX3_doesExplain, Cond.instanceMethod yX3_doesExplain, Cond.selects RX3 yX3_doesExplain yX3_doesExplain, Cond.code yX3_doesExplain cX3_doesExplain 5 (some .boolean), Cond.fieldLink RX3 78 "TroubleCodesModel" "makes" "[I", Cond.fieldLink RX3 93 "TroubleCodesModel" "checks" "I", Cond.fieldLink RX3 44 "TroubleCodesModel" "hasRun" "[Z", Cond.fieldLink RX3 32 "TroubleCodesModel" "code" "[I", Cond.methodLink RX3 150 yX3_many, Cond.static yX3_many, Cond.code yX3_many cX3_many 3 (some .int), Cond.methodLink RX3 160 yX3_plans, Cond.instanceMethod yX3_plans, Cond.selects RX3 yX3_plans yX3_plans, Cond.code yX3_plans cX3_plans 5 none]
def wsX3_plan_r2 : List Cond := [Cond.fieldLink RX3 90 "TroubleCodesModel" "first" "[I", Cond.fieldLink RX3 81 "TroubleCodesModel" "price" "[I", Cond.methodLink RX3 157 yX3_with, Cond.instanceMethod yX3_with, Cond.selects RX3 yX3_with yX3_with, Cond.code yX3_with cX3_with 5 (some .int)]
def wsX3_plan : List Cond := .code yX3_plan cX3_plan 1 (some .int) :: ((wsX3_plan_r1 ++ wsX3_plan_r2) ++ wsX30)
def wsX3_test_r1 : List Cond := [Cond.fieldLink RX3 147 "TroubleCodesModel" "listed" "I", Cond.fieldLink RX3 90 "TroubleCodesModel" "first" "[I", Cond.methodLink RX3 154 yX3_findLeast, Cond.instanceMethod yX3_findLeast, Cond.selects RX3 yX3_findLeast yX3_findLeast, Cond.initialized RX3, Cond.code yX3_findLeast cX3_findLeast 3 none, Cond.fieldLink RX3 141 "TroubleCodesModel" "causes" "I", Cond.fieldLink RX3 84 "TroubleCodesModel" "list" "[I", Cond.methodLink RX3 144 yX3_doesExplain, Cond.instanceMethod yX3_doesExplain, Cond.selects RX3 yX3_doesExplain yX3_doesExplain, Cond.code yX3_doesExplain cX3_doesExplain 5 (some .boolean), Cond.fieldLink RX3 78 "TroubleCodesModel" "makes" "[I", Cond.fieldLink RX3 93 "TroubleCodesModel" "checks" "I", Cond.fieldLink RX3 44 "TroubleCodesModel" "hasRun" "[Z", Cond.fieldLink RX3 32 "TroubleCodesModel" "code" "[I", Cond.methodLink RX3 150 yX3_many, Cond.static yX3_many, Cond.code yX3_many cX3_many 3 (some .int), Cond.methodLink RX3 160 yX3_plans, Cond.instanceMethod yX3_plans, Cond.selects RX3 yX3_plans yX3_plans, Cond.code yX3_plans cX3_plans 5 none]
def wsX3_test_r2 : List Cond := [Cond.fieldLink RX3 87 "TroubleCodesModel" "sum" "[I", Cond.fieldLink RX3 81 "TroubleCodesModel" "price" "[I", Cond.methodLink RX3 157 yX3_with, Cond.instanceMethod yX3_with, Cond.selects RX3 yX3_with yX3_with, Cond.code yX3_with cX3_with 5 (some .int)]
def wsX3_test : List Cond := .code yX3_test cX3_test 1 (some .int) :: ((wsX3_test_r1 ++ wsX3_test_r2) ++ wsX30)
def wsX3_foretells : List Cond := .code yX3_foretells cX3_foretells 3 (some .int) :: ([.fieldLink RX3 56 "TroubleCodesModel" "foretold" "[I", .methodLink RX3 100 yX3_isCheck, .instanceMethod yX3_isCheck, .selects RX3 yX3_isCheck yX3_isCheck, .initialized RX3, .code yX3_isCheck cX3_isCheck 2 (some .boolean), .fieldLink RX3 93 "TroubleCodesModel" "checks" "I", .methodLink RX3 96 yX3_in, .static yX3_in, .code yX3_in cX3_in 3 (some .boolean)] ++ wsX30)
def wsX3_sets : List Cond := .code yX3_sets cX3_sets 2 (some .int) :: ([.fieldLink RX3 53 "TroubleCodesModel" "sets" "[I", .methodLink RX3 100 yX3_isCheck, .instanceMethod yX3_isCheck, .selects RX3 yX3_isCheck yX3_isCheck, .initialized RX3, .code yX3_isCheck cX3_isCheck 2 (some .boolean), .fieldLink RX3 93 "TroubleCodesModel" "checks" "I", .methodLink RX3 96 yX3_in, .static yX3_in, .code yX3_in cX3_in 3 (some .boolean)] ++ wsX30)
def wsX3_manyOf : List Cond := .code yX3_manyOf cX3_manyOf 4 (some .int) :: ([.fieldLink RX3 93 "TroubleCodesModel" "checks" "I", .fieldLink RX3 32 "TroubleCodesModel" "code" "[I"] ++ wsX30)
def wsX3_count : List Cond := .code yX3_count cX3_count 2 (some .int) :: ([.fieldLink RX3 93 "TroubleCodesModel" "checks" "I", .fieldLink RX3 108 "TroubleCodesModel" "drives" "I", .fieldLink RX3 141 "TroubleCodesModel" "causes" "I", .fieldLink RX3 104 "TroubleCodesModel" "goes" "Z", .methodLink RX3 163 yX3_manyOf, .instanceMethod yX3_manyOf, .selects RX3 yX3_manyOf yX3_manyOf, .initialized RX3, .code yX3_manyOf cX3_manyOf 4 (some .int), .fieldLink RX3 32 "TroubleCodesModel" "code" "[I", .methodLink RX3 114 yX3_manyFrozen, .instanceMethod yX3_manyFrozen, .selects RX3 yX3_manyFrozen yX3_manyFrozen, .code yX3_manyFrozen cX3_manyFrozen 3 (some .int), .fieldLink RX3 66 "TroubleCodesModel" "isFrozen" "[Z"] ++ wsX30)
def wsX3_digest_r1 : List Cond := [Cond.constantLong RX3 166 (211), Cond.constantLong RX3 168 (31), Cond.fieldLink RX3 93 "TroubleCodesModel" "checks" "I", Cond.fieldLink RX3 53 "TroubleCodesModel" "sets" "[I", Cond.fieldLink RX3 59 "TroubleCodesModel" "fact" "[I", Cond.fieldLink RX3 141 "TroubleCodesModel" "causes" "I", Cond.fieldLink RX3 78 "TroubleCodesModel" "makes" "[I", Cond.fieldLink RX3 81 "TroubleCodesModel" "price" "[I", Cond.methodLink RX3 170 yX3_count, Cond.instanceMethod yX3_count, Cond.selects RX3 yX3_count yX3_count, Cond.initialized RX3, Cond.code yX3_count cX3_count 2 (some .int), Cond.fieldLink RX3 108 "TroubleCodesModel" "drives" "I", Cond.fieldLink RX3 104 "TroubleCodesModel" "goes" "Z", Cond.methodLink RX3 163 yX3_manyOf, Cond.instanceMethod yX3_manyOf, Cond.selects RX3 yX3_manyOf yX3_manyOf, Cond.code yX3_manyOf cX3_manyOf 4 (some .int), Cond.fieldLink RX3 32 "TroubleCodesModel" "code" "[I", Cond.methodLink RX3 114 yX3_manyFrozen, Cond.instanceMethod yX3_manyFrozen, Cond.selects RX3 yX3_manyFrozen yX3_manyFrozen, Cond.code yX3_manyFrozen cX3_manyFrozen 3 (some .int)]
def wsX3_digest_r2 : List Cond := [Cond.fieldLink RX3 66 "TroubleCodesModel" "isFrozen" "[Z", Cond.methodLink RX3 137 yX3_aboutOf, Cond.instanceMethod yX3_aboutOf, Cond.selects RX3 yX3_aboutOf yX3_aboutOf, Cond.code yX3_aboutOf cX3_aboutOf 3 (some .int), Cond.fieldLink RX3 35 "TroubleCodesModel" "bads" "[I", Cond.fieldLink RX3 38 "TroubleCodesModel" "goods" "[I", Cond.fieldLink RX3 41 "TroubleCodesModel" "age" "[I", Cond.fieldLink RX3 44 "TroubleCodesModel" "hasRun" "[Z", Cond.fieldLink RX3 7 "TroubleCodesModel" "sort" "[I", Cond.methodLink RX3 121 yX3_isHeld, Cond.instanceMethod yX3_isHeld, Cond.selects RX3 yX3_isHeld yX3_isHeld, Cond.code yX3_isHeld cX3_isHeld 2 (some .boolean), Cond.fieldLink RX3 13 "TroubleCodesModel" "follows" "[I", Cond.methodLink RX3 173 yX3_frozenAt, Cond.instanceMethod yX3_frozenAt, Cond.selects RX3 yX3_frozenAt yX3_frozenAt, Cond.code yX3_frozenAt cX3_frozenAt 2 (some .int), Cond.fieldLink RX3 72 "TroubleCodesModel" "frozenDrive" "[I", Cond.methodLink RX3 100 yX3_isCheck, Cond.instanceMethod yX3_isCheck, Cond.selects RX3 yX3_isCheck yX3_isCheck, Cond.code yX3_isCheck cX3_isCheck 2 (some .boolean)]
def wsX3_digest_r3 : List Cond := [Cond.methodLink RX3 96 yX3_in, Cond.static yX3_in, Cond.code yX3_in cX3_in 3 (some .boolean), Cond.methodLink RX3 176 yX3_frozen, Cond.instanceMethod yX3_frozen, Cond.selects RX3 yX3_frozen yX3_frozen, Cond.code yX3_frozen cX3_frozen 3 (some .int), Cond.fieldLink RX3 69 "TroubleCodesModel" "frozenFact" "[I"]
def wsX3_digest : List Cond := .code yX3_digest cX3_digest 5 (some .long) :: ((wsX3_digest_r1 ++ (wsX3_digest_r2 ++ wsX3_digest_r3)) ++ wsX30)
def wsL_law_r1 : List Cond := [Cond.classLink RL 7 RX2, Cond.instantiable RX2 9, Cond.initialized RX2, Cond.classLink RL 10 RX3, Cond.instantiable RX3 33, Cond.initialized RX3, Cond.methodLink RL 9 yX2_init, Cond.instanceMethod yX2_init, Cond.code yX2_init cX2_init 1 none, Cond.methodLink RX2 1 objectInit, Cond.instanceMethod objectInit, Cond.code objectInit ⟨#[0xb1]⟩ 1 none, Cond.classLink RX2 9 RX0, Cond.fieldLink RX2 11 "TroubleCodes" "checks" "[LTroubleCodes$Check;", Cond.fieldLink RX2 15 "TroubleCodes" "checkCount" "I", Cond.arrayClass .int, Cond.fieldLink RX2 19 "TroubleCodes" "facts" "[I", Cond.fieldLink RX2 23 "TroubleCodes" "roomFor" "I", Cond.fieldLink RX2 26 "TroubleCodes" "freezings" "I", Cond.fieldLink RX2 29 "TroubleCodes" "drivesEnded" "I", Cond.fieldLink RX2 32 "TroubleCodes" "driving" "Z", Cond.fieldLink RX2 36 "TroubleCodes" "troubledAtBegin" "I", Cond.classLink RX2 39 RX1, Cond.instantiable RX1 13]
def wsL_law_r2 : List Cond := [Cond.initialized RX1, Cond.fieldLink RX2 42 "TroubleCodes" "workshop" "LTroubleCodes$Workshop;", Cond.instanceMethod yX1_init, Cond.code yX1_init cX1_init 1 none, Cond.methodLink RX1 3 objectInit, Cond.fieldLink RX1 11 "TroubleCodes$Workshop" "causeChecks" "[I", Cond.fieldLink RX1 15 "TroubleCodes$Workshop" "prices" "[I", Cond.fieldLink RX1 18 "TroubleCodes$Workshop" "causeCount" "I", Cond.fieldLink RX1 22 "TroubleCodes$Workshop" "madeBad" "[I", Cond.fieldLink RX1 25 "TroubleCodes$Workshop" "least" "[I", Cond.fieldLink RX1 28 "TroubleCodes$Workshop" "leastCount" "I", Cond.fieldLink RX1 31 "TroubleCodes$Workshop" "holders" "[I", Cond.fieldLink RX1 34 "TroubleCodes$Workshop" "sums" "[I", Cond.fieldLink RX1 37 "TroubleCodes$Workshop" "firstTest" "I", Cond.fieldLink RX1 40 "TroubleCodes$Workshop" "seenRan" "I", Cond.fieldLink RX1 43 "TroubleCodes$Workshop" "seenSet" "I", Cond.fieldLink RX1 46 "TroubleCodes$Workshop" "seenCauses" "I", Cond.fieldLink RX1 49 "TroubleCodes$Workshop" "planned" "Z", Cond.methodLink RL 12 yX3_init, Cond.instanceMethod yX3_init, Cond.code yX3_init cX3_init 1 none, Cond.methodLink RX3 1 objectInit, Cond.fieldLink RX3 7 "TroubleCodesModel" "sort" "[I", Cond.fieldLink RX3 13 "TroubleCodesModel" "follows" "[I"]
def wsL_law_r3 : List Cond := [Cond.fieldLink RX3 16 "TroubleCodesModel" "badAt" "[I", Cond.fieldLink RX3 19 "TroubleCodesModel" "goodAt" "[I", Cond.fieldLink RX3 22 "TroubleCodesModel" "ageAt" "[I", Cond.fieldLink RX3 25 "TroubleCodesModel" "weight" "[I", Cond.arrayClass .boolean, Cond.fieldLink RX3 28 "TroubleCodesModel" "hasLamp" "[Z", Cond.fieldLink RX3 32 "TroubleCodesModel" "code" "[I", Cond.fieldLink RX3 35 "TroubleCodesModel" "bads" "[I", Cond.fieldLink RX3 38 "TroubleCodesModel" "goods" "[I", Cond.fieldLink RX3 41 "TroubleCodesModel" "age" "[I", Cond.fieldLink RX3 44 "TroubleCodesModel" "hasRun" "[Z", Cond.fieldLink RX3 47 "TroubleCodesModel" "begun" "[I", Cond.fieldLink RX3 50 "TroubleCodesModel" "told" "[I", Cond.fieldLink RX3 53 "TroubleCodesModel" "sets" "[I", Cond.fieldLink RX3 56 "TroubleCodesModel" "foretold" "[I", Cond.fieldLink RX3 59 "TroubleCodesModel" "fact" "[I", Cond.fieldLink RX3 62 "TroubleCodesModel" "room" "I", Cond.fieldLink RX3 66 "TroubleCodesModel" "isFrozen" "[Z", Cond.fieldLink RX3 69 "TroubleCodesModel" "frozenFact" "[I", Cond.fieldLink RX3 72 "TroubleCodesModel" "frozenDrive" "[I", Cond.fieldLink RX3 75 "TroubleCodesModel" "frozenTurn" "[I", Cond.fieldLink RX3 78 "TroubleCodesModel" "makes" "[I", Cond.fieldLink RX3 81 "TroubleCodesModel" "price" "[I", Cond.fieldLink RX3 84 "TroubleCodesModel" "list" "[I"]
def wsL_law_r4 : List Cond := [Cond.fieldLink RX3 87 "TroubleCodesModel" "sum" "[I", Cond.fieldLink RX3 90 "TroubleCodesModel" "first" "[I", Cond.methodLink RL 13 yX2_check, Cond.instanceMethod yX2_check, Cond.selects RX2 yX2_check yX2_check, Cond.code yX2_check cX2_check 8 (some .int), Cond.instantiable RX0 18, Cond.initialized RX0, Cond.methodLink RX2 46 yX2_isWithin, Cond.static yX2_isWithin, Cond.code yX2_isWithin cX2_isWithin 3 (some .boolean), Cond.methodLink RX2 50 yX2_checkAt, Cond.instanceMethod yX2_checkAt, Cond.selects RX2 yX2_checkAt yX2_checkAt, Cond.code yX2_checkAt cX2_checkAt 2 (some (.object "TroubleCodes$Check")), Cond.methodLink RX2 54 yX0_init, Cond.instanceMethod yX0_init, Cond.code yX0_init cX0_init 8 none, Cond.methodLink RX0 3 objectInit, Cond.fieldLink RX0 11 "TroubleCodes$Check" "code" "I", Cond.fieldLink RX0 15 "TroubleCodes$Check" "badCount" "I", Cond.fieldLink RX0 18 "TroubleCodes$Check" "goodCount" "I", Cond.fieldLink RX0 21 "TroubleCodes$Check" "age" "I", Cond.fieldLink RX0 24 "TroubleCodes$Check" "told" "I"]
def wsL_law_r5 : List Cond := [Cond.fieldLink RX0 27 "TroubleCodes$Check" "ranSinceCleared" "Z", Cond.fieldLink RX0 31 "TroubleCodes$Check" "frozenDrive" "I", Cond.fieldLink RX0 34 "TroubleCodes$Check" "frozenOrder" "I", Cond.fieldLink RX0 37 "TroubleCodes$Check" "frozenFacts" "[I", Cond.fieldLink RX0 41 "TroubleCodes$Check" "setDrives" "I", Cond.fieldLink RX0 44 "TroubleCodes$Check" "foretoldBy" "[I", Cond.fieldLink RX0 47 "TroubleCodes$Check" "sort" "I", Cond.fieldLink RX0 50 "TroubleCodes$Check" "follows" "I", Cond.fieldLink RX0 53 "TroubleCodes$Check" "badLimit" "I", Cond.fieldLink RX0 56 "TroubleCodes$Check" "goodLimit" "I", Cond.fieldLink RX0 59 "TroubleCodes$Check" "ageLimit" "I", Cond.fieldLink RX0 62 "TroubleCodes$Check" "weight" "I", Cond.fieldLink RX0 65 "TroubleCodes$Check" "lamp" "Z", Cond.methodLink RL 17 yX3_check, Cond.instanceMethod yX3_check, Cond.selects RX3 yX3_check yX3_check, Cond.code yX3_check cX3_check 8 (some .int), Cond.fieldLink RX3 104 "TroubleCodesModel" "goes" "Z", Cond.fieldLink RX3 93 "TroubleCodesModel" "checks" "I", Cond.methodLink RX3 96 yX3_in, Cond.static yX3_in, Cond.code yX3_in cX3_in 3 (some .boolean), Cond.methodLink RX3 100 yX3_isCheck, Cond.instanceMethod yX3_isCheck]
def wsL_law_r6 : List Cond := [Cond.selects RX3 yX3_isCheck yX3_isCheck, Cond.code yX3_isCheck cX3_isCheck 2 (some .boolean), Cond.methodLink RL 18 yX2_begin, Cond.instanceMethod yX2_begin, Cond.selects RX2 yX2_begin yX2_begin, Cond.code yX2_begin cX2_begin 1 (some .int), Cond.methodLink RX2 57 yX2_troubledBits, Cond.instanceMethod yX2_troubledBits, Cond.selects RX2 yX2_troubledBits yX2_troubledBits, Cond.code yX2_troubledBits cX2_troubledBits 1 (some .int), Cond.methodLink RX2 123 yX2_codeBits, Cond.instanceMethod yX2_codeBits, Cond.selects RX2 yX2_codeBits yX2_codeBits, Cond.code yX2_codeBits cX2_codeBits 5 (some .int), Cond.fieldLink RX2 103 "TroubleCodes$Check" "code" "I", Cond.methodLink RL 22 yX3_begin, Cond.instanceMethod yX3_begin, Cond.selects RX3 yX3_begin yX3_begin, Cond.code yX3_begin cX3_begin 2 (some .int), Cond.fieldLink RX3 108 "TroubleCodesModel" "drives" "I", Cond.methodLink RL 23 yX2_ran, Cond.instanceMethod yX2_ran, Cond.selects RX2 yX2_ran yX2_ran, Cond.code yX2_ran cX2_ran 4 (some .int)]
def wsL_law_r7 : List Cond := [Cond.methodLink RX2 61 yX0_tell, Cond.instanceMethod yX0_tell, Cond.selects RX0 yX0_tell yX0_tell, Cond.code yX0_tell cX0_tell 2 none, Cond.methodLink RL 27 yX3_ran, Cond.instanceMethod yX3_ran, Cond.selects RX3 yX3_ran yX3_ran, Cond.code yX3_ran cX3_ran 3 (some .int), Cond.methodLink RL 28 yX2_end, Cond.instanceMethod yX2_end, Cond.selects RX2 yX2_end yX2_end, Cond.code yX2_end cX2_end 4 (some .int), Cond.methodLink RX2 65 yX2_endFor, Cond.instanceMethod yX2_endFor, Cond.selects RX2 yX2_endFor yX2_endFor, Cond.code yX2_endFor cX2_endFor 3 (some .boolean), Cond.methodLink RX2 79 yX2_isHeldBack, Cond.instanceMethod yX2_isHeldBack, Cond.selects RX2 yX2_isHeldBack yX2_isHeldBack, Cond.code yX2_isHeldBack cX2_isHeldBack 3 (some .boolean), Cond.fieldLink RX2 182 "TroubleCodes$Check" "sort" "I", Cond.fieldLink RX2 185 "TroubleCodes$Check" "follows" "I", Cond.methodLink RX2 188 yX0_isTroubled, Cond.instanceMethod yX0_isTroubled]
def wsL_law_r8 : List Cond := [Cond.selects RX0 yX0_isTroubled yX0_isTroubled, Cond.code yX0_isTroubled cX0_isTroubled 1 (some .boolean), Cond.methodLink RX2 191 yX0_countDrive, Cond.instanceMethod yX0_countDrive, Cond.selects RX0 yX0_countDrive yX0_countDrive, Cond.code yX0_countDrive cX0_countDrive 3 (some .boolean), Cond.methodLink RX0 76 yX0_countBad, Cond.instanceMethod yX0_countBad, Cond.selects RX0 yX0_countBad yX0_countBad, Cond.code yX0_countBad cX0_countBad 3 (some .boolean), Cond.methodLink RX0 80 yX0_countGood, Cond.instanceMethod yX0_countGood, Cond.selects RX0 yX0_countGood yX0_countGood, Cond.code yX0_countGood cX0_countGood 1 none, Cond.methodLink RX0 83 yX0_growOlder, Cond.instanceMethod yX0_growOlder, Cond.selects RX0 yX0_growOlder yX0_growOlder, Cond.code yX0_growOlder cX0_growOlder 1 none, Cond.methodLink RX0 86 yX0_thaw, Cond.instanceMethod yX0_thaw, Cond.selects RX0 yX0_thaw yX0_thaw, Cond.code yX0_thaw cX0_thaw 1 none, Cond.methodLink RX2 195 yX0_noteSet, Cond.instanceMethod yX0_noteSet]
def wsL_law_r9 : List Cond := [Cond.selects RX0 yX0_noteSet yX0_noteSet, Cond.code yX0_noteSet cX0_noteSet 3 none, Cond.methodLink RX2 199 yX2_freeze, Cond.instanceMethod yX2_freeze, Cond.selects RX2 yX2_freeze yX2_freeze, Cond.code yX2_freeze cX2_freeze 3 none, Cond.methodLink RX2 203 yX0_freeze, Cond.instanceMethod yX0_freeze, Cond.selects RX0 yX0_freeze yX0_freeze, Cond.code yX0_freeze cX0_freeze 4 none, Cond.methodLink RX0 89 arraycopyName, Cond.native arraycopyName, Cond.static arraycopyName, Cond.initialized "java/lang/System", Cond.methodLink RX2 69 yX2_frozenCount, Cond.instanceMethod yX2_frozenCount, Cond.selects RX2 yX2_frozenCount yX2_frozenCount, Cond.code yX2_frozenCount cX2_frozenCount 4 (some .int), Cond.methodLink RX2 90 yX0_isFrozen, Cond.instanceMethod yX0_isFrozen, Cond.selects RX0 yX0_isFrozen yX0_isFrozen, Cond.code yX0_isFrozen cX0_isFrozen 1 (some .boolean), Cond.methodLink RX2 72 yX2_leastFrozen, Cond.instanceMethod yX2_leastFrozen]
def wsL_law_r10 : List Cond := [Cond.selects RX2 yX2_leastFrozen yX2_leastFrozen, Cond.code yX2_leastFrozen cX2_leastFrozen 4 (some (.object "TroubleCodes$Check")), Cond.methodLink RX2 206 yX0_isPermanent, Cond.instanceMethod yX0_isPermanent, Cond.selects RX0 yX0_isPermanent yX0_isPermanent, Cond.code yX0_isPermanent cX0_isPermanent 1 (some .boolean), Cond.methodLink RX2 209 yX0_goesAheadOf, Cond.instanceMethod yX0_goesAheadOf, Cond.selects RX0 yX0_goesAheadOf yX0_goesAheadOf, Cond.code yX0_goesAheadOf cX0_goesAheadOf 2 (some .boolean), Cond.methodLink RX2 76 yX0_thaw, Cond.methodLink RL 31 yX3_end, Cond.instanceMethod yX3_end, Cond.selects RX3 yX3_end yX3_end, Cond.code yX3_end cX3_end 4 (some .int), Cond.methodLink RX3 128 yX3_wasBad, Cond.instanceMethod yX3_wasBad, Cond.selects RX3 yX3_wasBad yX3_wasBad, Cond.code yX3_wasBad cX3_wasBad 4 none, Cond.methodLink RX3 121 yX3_isHeld, Cond.instanceMethod yX3_isHeld, Cond.selects RX3 yX3_isHeld yX3_isHeld, Cond.code yX3_isHeld cX3_isHeld 2 (some .boolean), Cond.methodLink RX3 124 yX3_freezes]
def wsL_law_r11 : List Cond := [Cond.instanceMethod yX3_freezes, Cond.selects RX3 yX3_freezes yX3_freezes, Cond.code yX3_freezes cX3_freezes 3 none, Cond.fieldLink RX3 111 "TroubleCodesModel" "turns" "I", Cond.methodLink RX3 114 yX3_manyFrozen, Cond.instanceMethod yX3_manyFrozen, Cond.selects RX3 yX3_manyFrozen yX3_manyFrozen, Cond.code yX3_manyFrozen cX3_manyFrozen 3 (some .int), Cond.methodLink RX3 118 yX3_leastFrozen, Cond.instanceMethod yX3_leastFrozen, Cond.selects RX3 yX3_leastFrozen yX3_leastFrozen, Cond.code yX3_leastFrozen cX3_leastFrozen 3 (some .int), Cond.methodLink RX3 131 yX3_wasGood, Cond.instanceMethod yX3_wasGood, Cond.selects RX3 yX3_wasGood yX3_wasGood, Cond.code yX3_wasGood cX3_wasGood 2 none, Cond.methodLink RX3 134 yX3_ages, Cond.instanceMethod yX3_ages, Cond.selects RX3 yX3_ages yX3_ages, Cond.code yX3_ages cX3_ages 2 none, Cond.methodLink RL 32 yX2_fact, Cond.instanceMethod yX2_fact, Cond.selects RX2 yX2_fact yX2_fact, Cond.code yX2_fact cX2_fact 4 (some .int)]
def wsL_law_r12 : List Cond := [Cond.methodLink RL 36 yX3_fact, Cond.instanceMethod yX3_fact, Cond.selects RX3 yX3_fact yX3_fact, Cond.code yX3_fact cX3_fact 4 (some .int), Cond.methodLink RL 37 yX2_room, Cond.instanceMethod yX2_room, Cond.selects RX2 yX2_room yX2_room, Cond.code yX2_room cX2_room 5 (some .int), Cond.methodLink RL 41 yX3_room, Cond.instanceMethod yX3_room, Cond.selects RX3 yX3_room yX3_room, Cond.code yX3_room cX3_room 3 (some .int), Cond.methodLink RL 42 yX2_about, Cond.instanceMethod yX2_about, Cond.selects RX2 yX2_about yX2_about, Cond.code yX2_about cX2_about 4 (some .int), Cond.methodLink RX2 82 yX2_asNumber, Cond.static yX2_asNumber, Cond.code yX2_asNumber cX2_asNumber 1 (some .int), Cond.methodLink RX2 86 yX0_numberOf, Cond.instanceMethod yX0_numberOf, Cond.selects RX0 yX0_numberOf yX0_numberOf, Cond.code yX0_numberOf cX0_numberOf 2 (some .int), Cond.methodLink RX0 68 yX0_isFrozen]
def wsL_law_r13 : List Cond := [Cond.methodLink RL 45 yX3_about, Cond.instanceMethod yX3_about, Cond.selects RX3 yX3_about yX3_about, Cond.code yX3_about cX3_about 3 (some .int), Cond.methodLink RX3 137 yX3_aboutOf, Cond.instanceMethod yX3_aboutOf, Cond.selects RX3 yX3_aboutOf yX3_aboutOf, Cond.code yX3_aboutOf cX3_aboutOf 3 (some .int), Cond.methodLink RL 46 yX2_frozen, Cond.instanceMethod yX2_frozen, Cond.selects RX2 yX2_frozen yX2_frozen, Cond.code yX2_frozen cX2_frozen 4 (some .int), Cond.fieldLink RX2 94 "TroubleCodes$Check" "frozenFacts" "[I", Cond.methodLink RL 49 yX3_frozen, Cond.instanceMethod yX3_frozen, Cond.selects RX3 yX3_frozen yX3_frozen, Cond.code yX3_frozen cX3_frozen 3 (some .int), Cond.methodLink RL 50 yX2_frozenAt, Cond.instanceMethod yX2_frozenAt, Cond.selects RX2 yX2_frozenAt yX2_frozenAt, Cond.code yX2_frozenAt cX2_frozenAt 3 (some .int), Cond.fieldLink RX2 97 "TroubleCodes$Check" "frozenDrive" "I", Cond.methodLink RL 53 yX3_frozenAt, Cond.instanceMethod yX3_frozenAt]
def wsL_law_r14 : List Cond := [Cond.selects RX3 yX3_frozenAt yX3_frozenAt, Cond.code yX3_frozenAt cX3_frozenAt 2 (some .int), Cond.methodLink RL 54 yX2_lamp, Cond.instanceMethod yX2_lamp, Cond.selects RX2 yX2_lamp yX2_lamp, Cond.code yX2_lamp cX2_lamp 3 (some .int), Cond.fieldLink RX2 100 "TroubleCodes$Check" "lamp" "Z", Cond.methodLink RL 57 yX3_lamp, Cond.instanceMethod yX3_lamp, Cond.selects RX3 yX3_lamp yX3_lamp, Cond.code yX3_lamp cX3_lamp 2 (some .int), Cond.methodLink RL 58 yX2_clear, Cond.instanceMethod yX2_clear, Cond.selects RX2 yX2_clear yX2_clear, Cond.code yX2_clear cX2_clear 4 (some .int), Cond.methodLink RX2 106 yX0_clearCode, Cond.instanceMethod yX0_clearCode, Cond.selects RX0 yX0_clearCode yX0_clearCode, Cond.code yX0_clearCode cX0_clearCode 2 (some .boolean), Cond.methodLink RX0 95 yX0_isPermanent, Cond.methodLink RL 61 yX3_clear, Cond.instanceMethod yX3_clear, Cond.selects RX3 yX3_clear yX3_clear, Cond.code yX3_clear cX3_clear 3 (some .int)]
def wsL_law_r15 : List Cond := [Cond.methodLink RL 62 yX2_cause, Cond.instanceMethod yX2_cause, Cond.selects RX2 yX2_cause yX2_cause, Cond.code yX2_cause cX2_cause 3 (some .int), Cond.methodLink RX2 109 yX2_isBitsBelow, Cond.static yX2_isBitsBelow, Cond.code yX2_isBitsBelow cX2_isBitsBelow 2 (some .boolean), Cond.methodLink RX2 113 yX1_addCause, Cond.instanceMethod yX1_addCause, Cond.selects RX1 yX1_addCause yX1_addCause, Cond.code yX1_addCause cX1_addCause 5 (some .int), Cond.methodLink RL 65 yX3_cause, Cond.instanceMethod yX3_cause, Cond.selects RX3 yX3_cause yX3_cause, Cond.code yX3_cause cX3_cause 3 (some .int), Cond.fieldLink RX3 141 "TroubleCodesModel" "causes" "I", Cond.methodLink RL 66 yX2_explains, Cond.instanceMethod yX2_explains, Cond.selects RX2 yX2_explains yX2_explains, Cond.code yX2_explains cX2_explains 2 (some .int), Cond.fieldLink RX2 117 "TroubleCodes$Workshop" "causeCount" "I", Cond.methodLink RX2 120 yX2_ranBits, Cond.instanceMethod yX2_ranBits, Cond.selects RX2 yX2_ranBits yX2_ranBits]
def wsL_law_r16 : List Cond := [Cond.code yX2_ranBits cX2_ranBits 4 (some .int), Cond.fieldLink RX2 212 "TroubleCodes$Check" "ranSinceCleared" "Z", Cond.methodLink RX2 126 yX1_isExplainedBy, Cond.instanceMethod yX1_isExplainedBy, Cond.selects RX1 yX1_isExplainedBy yX1_isExplainedBy, Cond.code yX1_isExplainedBy cX1_isExplainedBy 4 (some .boolean), Cond.methodLink RL 69 yX3_explains, Cond.instanceMethod yX3_explains, Cond.selects RX3 yX3_explains yX3_explains, Cond.code yX3_explains cX3_explains 2 (some .int), Cond.methodLink RX3 144 yX3_doesExplain, Cond.instanceMethod yX3_doesExplain, Cond.selects RX3 yX3_doesExplain yX3_doesExplain, Cond.code yX3_doesExplain cX3_doesExplain 5 (some .boolean), Cond.methodLink RL 70 yX2_least, Cond.instanceMethod yX2_least, Cond.selects RX2 yX2_least yX2_least, Cond.code yX2_least cX2_least 1 (some .int), Cond.fieldLink RX2 132 "TroubleCodes$Workshop" "leastCount" "I", Cond.methodLink RX2 129 yX2_lookAtCodes, Cond.instanceMethod yX2_lookAtCodes, Cond.selects RX2 yX2_lookAtCodes yX2_lookAtCodes, Cond.code yX2_lookAtCodes cX2_lookAtCodes 1 none, Cond.methodLink RX2 215 yX1_look]
def wsL_law_r17 : List Cond := [Cond.instanceMethod yX1_look, Cond.selects RX1 yX1_look yX1_look, Cond.code yX1_look cX1_look 3 none, Cond.methodLink RX1 53 yX1_findLeast, Cond.instanceMethod yX1_findLeast, Cond.selects RX1 yX1_findLeast yX1_findLeast, Cond.code yX1_findLeast cX1_findLeast 4 none, Cond.methodLink RX1 56 yJ6_bitCount_0f7a4, Cond.static yJ6_bitCount_0f7a4, Cond.initialized RJ6, Cond.code yJ6_bitCount_0f7a4 cJ6_bitCount_0f7a4 1 (some .int), Cond.constant RJ6 265 (1431655765), Cond.constant RJ6 266 (858993459), Cond.constant RJ6 267 (252645135), Cond.methodLink RX1 62 yX1_isExplainedBy, Cond.methodLink RL 73 yX3_least, Cond.instanceMethod yX3_least, Cond.selects RX3 yX3_least yX3_least, Cond.code yX3_least cX3_least 1 (some .int), Cond.fieldLink RX3 147 "TroubleCodesModel" "listed" "I", Cond.methodLink RX3 154 yX3_findLeast, Cond.instanceMethod yX3_findLeast, Cond.selects RX3 yX3_findLeast yX3_findLeast, Cond.code yX3_findLeast cX3_findLeast 3 none]
def wsL_law_r18 : List Cond := [Cond.methodLink RX3 150 yX3_many, Cond.static yX3_many, Cond.code yX3_many cX3_many 3 (some .int), Cond.methodLink RL 74 yX2_leastAt, Cond.instanceMethod yX2_leastAt, Cond.selects RX2 yX2_leastAt yX2_leastAt, Cond.code yX2_leastAt cX2_leastAt 2 (some .int), Cond.fieldLink RX2 135 "TroubleCodes$Workshop" "least" "[I", Cond.methodLink RL 77 yX3_leastAt, Cond.instanceMethod yX3_leastAt, Cond.selects RX3 yX3_leastAt yX3_leastAt, Cond.code yX3_leastAt cX3_leastAt 2 (some .int), Cond.methodLink RL 78 yX2_plan, Cond.instanceMethod yX2_plan, Cond.selects RX2 yX2_plan yX2_plan, Cond.code yX2_plan cX2_plan 1 (some .int), Cond.methodLink RX2 138 yX1_planSum, Cond.instanceMethod yX1_planSum, Cond.selects RX1 yX1_planSum yX1_planSum, Cond.code yX1_planSum cX1_planSum 1 (some .int), Cond.methodLink RX1 66 yX1_makePlan, Cond.instanceMethod yX1_makePlan, Cond.selects RX1 yX1_makePlan yX1_makePlan, Cond.code yX1_makePlan cX1_makePlan 2 none]
def wsL_law_r19 : List Cond := [Cond.methodLink RX1 73 yX1_holdersOf, Cond.instanceMethod yX1_holdersOf, Cond.selects RX1 yX1_holdersOf yX1_holdersOf, Cond.code yX1_holdersOf cX1_holdersOf 4 (some .int), Cond.methodLink RX1 69 yX1_allLeast, Cond.instanceMethod yX1_allLeast, Cond.selects RX1 yX1_allLeast yX1_allLeast, Cond.code yX1_allLeast cX1_allLeast 1 (some .int), Cond.methodLink RX1 76 yX1_planFor, Cond.instanceMethod yX1_planFor, Cond.selects RX1 yX1_planFor yX1_planFor, Cond.code yX1_planFor cX1_planFor 6 none, Cond.methodLink RL 81 yX3_plan, Cond.instanceMethod yX3_plan, Cond.selects RX3 yX3_plan yX3_plan, Cond.code yX3_plan cX3_plan 1 (some .int), Cond.methodLink RX3 160 yX3_plans, Cond.instanceMethod yX3_plans, Cond.selects RX3 yX3_plans yX3_plans, Cond.code yX3_plans cX3_plans 5 none, Cond.methodLink RX3 157 yX3_with, Cond.instanceMethod yX3_with, Cond.selects RX3 yX3_with yX3_with, Cond.code yX3_with cX3_with 5 (some .int)]
def wsL_law_r20 : List Cond := [Cond.methodLink RL 82 yX2_test, Cond.instanceMethod yX2_test, Cond.selects RX2 yX2_test yX2_test, Cond.code yX2_test cX2_test 1 (some .int), Cond.methodLink RX2 141 yX1_planTest, Cond.instanceMethod yX1_planTest, Cond.selects RX1 yX1_planTest yX1_planTest, Cond.code yX1_planTest cX1_planTest 1 (some .int), Cond.methodLink RL 85 yX3_test, Cond.instanceMethod yX3_test, Cond.selects RX3 yX3_test yX3_test, Cond.code yX3_test cX3_test 1 (some .int), Cond.methodLink RL 86 yX2_foretells, Cond.instanceMethod yX2_foretells, Cond.selects RX2 yX2_foretells yX2_foretells, Cond.code yX2_foretells cX2_foretells 4 (some .int), Cond.fieldLink RX2 144 "TroubleCodes$Check" "foretoldBy" "[I", Cond.methodLink RL 89 yX3_foretells, Cond.instanceMethod yX3_foretells, Cond.selects RX3 yX3_foretells yX3_foretells, Cond.code yX3_foretells cX3_foretells 3 (some .int), Cond.methodLink RL 90 yX2_sets, Cond.instanceMethod yX2_sets, Cond.selects RX2 yX2_sets yX2_sets]
def wsL_law_r21 : List Cond := [Cond.code yX2_sets cX2_sets 3 (some .int), Cond.fieldLink RX2 147 "TroubleCodes$Check" "setDrives" "I", Cond.methodLink RL 93 yX3_sets, Cond.instanceMethod yX3_sets, Cond.selects RX3 yX3_sets yX3_sets, Cond.code yX3_sets cX3_sets 2 (some .int), Cond.methodLink RL 94 yX2_count, Cond.instanceMethod yX2_count, Cond.selects RX2 yX2_count yX2_count, Cond.code yX2_count cX2_count 2 (some .int), Cond.methodLink RX2 150 yJ6_bitCount_0f7a4, Cond.methodLink RL 97 yX3_count, Cond.instanceMethod yX3_count, Cond.selects RX3 yX3_count yX3_count, Cond.code yX3_count cX3_count 2 (some .int), Cond.methodLink RX3 163 yX3_manyOf, Cond.instanceMethod yX3_manyOf, Cond.selects RX3 yX3_manyOf yX3_manyOf, Cond.code yX3_manyOf cX3_manyOf 4 (some .int), Cond.methodLink RL 98 yX2_digest, Cond.instanceMethod yX2_digest, Cond.selects RX2 yX2_digest yX2_digest, Cond.code yX2_digest cX2_digest 4 (some .long), Cond.constantLong RX2 155 (211)]
def wsL_law_r22 : List Cond := [Cond.constantLong RX2 157 (31), Cond.methodLink RX2 159 yX2_count, Cond.methodLink RX2 162 yX2_digestOfCheck, Cond.instanceMethod yX2_digestOfCheck, Cond.selects RX2 yX2_digestOfCheck yX2_digestOfCheck, Cond.code yX2_digestOfCheck cX2_digestOfCheck 7 (some .long), Cond.methodLink RX2 170 yX2_about, Cond.methodLink RX2 173 yX2_frozenAt, Cond.methodLink RX2 176 yX2_frozen, Cond.methodLink RX2 179 yX2_sets, Cond.methodLink RX2 166 yX1_digestFrom, Cond.instanceMethod yX1_digestFrom, Cond.selects RX1 yX1_digestFrom yX1_digestFrom, Cond.code yX1_digestFrom cX1_digestFrom 6 (some .long), Cond.constantLong RX1 80 (31), Cond.methodLink RL 102 yX3_digest, Cond.instanceMethod yX3_digest, Cond.selects RX3 yX3_digest yX3_digest, Cond.code yX3_digest cX3_digest 5 (some .long), Cond.constantLong RX3 166 (211), Cond.constantLong RX3 168 (31), Cond.methodLink RX3 170 yX3_count, Cond.methodLink RX3 173 yX3_frozenAt, Cond.methodLink RX3 176 yX3_frozen]
def wsL_law : List Cond := (wsL_law_r1 ++ (wsL_law_r2 ++ (wsL_law_r3 ++ (wsL_law_r4 ++ (wsL_law_r5 ++ (wsL_law_r6 ++ (wsL_law_r7 ++ (wsL_law_r8 ++ (wsL_law_r9 ++ (wsL_law_r10 ++ (wsL_law_r11 ++ (wsL_law_r12 ++ (wsL_law_r13 ++ (wsL_law_r14 ++ (wsL_law_r15 ++ (wsL_law_r16 ++ (wsL_law_r17 ++ (wsL_law_r18 ++ (wsL_law_r19 ++ (wsL_law_r20 ++ (wsL_law_r21 ++ wsL_law_r22))))))))))))))))))))) ++ wsX20 ++ wsX30 ++ wsX10 ++ wsX00 ++ ([] : List Cond)
end
section
set_option maxRecDepth 100000 in
theorem wl_in1 : GoodIn lw_tbl wsL_law_r1 := goodIn_p wsL_law_r1 [44, 47] (by decide +kernel) (by decide +kernel)
set_option maxRecDepth 100000 in
theorem wl_in2 : GoodIn lw_tbl wsL_law_r2 := goodIn_p wsL_law_r2 [54, 461] (by decide +kernel) (by decide +kernel)
set_option maxRecDepth 100000 in
theorem wl_in3 : GoodIn lw_tbl wsL_law_r3 := goodIn_p wsL_law_r3 [] (by decide +kernel) (by decide +kernel)
set_option maxRecDepth 100000 in
theorem wl_in4 : GoodIn lw_tbl wsL_law_r4 := goodIn_p wsL_law_r4 [131, 134, 138, 142] (by decide +kernel) (by decide +kernel)
set_option maxRecDepth 100000 in
theorem wl_in5 : GoodIn lw_tbl wsL_law_r5 := goodIn_p wsL_law_r5 [567, 570] (by decide +kernel) (by decide +kernel)
set_option maxRecDepth 100000 in
theorem wl_in6 : GoodIn lw_tbl wsL_law_r6 := goodIn_p wsL_law_r6 [574, 211, 215, 219, 578, 223] (by decide +kernel) (by decide +kernel)
set_option maxRecDepth 100000 in
theorem wl_in7 : GoodIn lw_tbl wsL_law_r7 := goodIn_p wsL_law_r7 [227, 582, 231, 235, 239] (by decide +kernel) (by decide +kernel)
end
section
set_option maxRecDepth 100000 in
theorem wl_in8 : GoodIn lw_tbl wsL_law_r8 := goodIn_p wsL_law_r8 [243, 247, 251, 255, 259, 263] (by decide +kernel) (by decide +kernel)
set_option maxRecDepth 100000 in
theorem wl_in9 : GoodIn lw_tbl wsL_law_r9 := goodIn_p wsL_law_r9 [267, 271, 275, 282, 286] (by decide +kernel) (by decide +kernel)
set_option maxRecDepth 100000 in
theorem wl_in10 : GoodIn lw_tbl wsL_law_r10 := goodIn_p wsL_law_r10 [290, 294, 298, 598, 602, 606] (by decide +kernel) (by decide +kernel)
set_option maxRecDepth 100000 in
theorem wl_in11 : GoodIn lw_tbl wsL_law_r11 := goodIn_p wsL_law_r11 [610, 590, 594, 614, 618, 303] (by decide +kernel) (by decide +kernel)
set_option maxRecDepth 100000 in
theorem wl_in12 : GoodIn lw_tbl wsL_law_r12 := goodIn_p wsL_law_r12 [622, 307, 586, 311, 314, 318] (by decide +kernel) (by decide +kernel)
set_option maxRecDepth 100000 in
theorem wl_in13 : GoodIn lw_tbl wsL_law_r13 := goodIn_p wsL_law_r13 [626, 630, 324, 634, 328] (by decide +kernel) (by decide +kernel)
set_option maxRecDepth 100000 in
theorem wl_in14 : GoodIn lw_tbl wsL_law_r14 := goodIn_p wsL_law_r14 [638, 332, 642, 336, 340, 646] (by decide +kernel) (by decide +kernel)
end
section
set_option maxRecDepth 100000 in
theorem wl_in15 : GoodIn lw_tbl wsL_law_r15 := goodIn_p wsL_law_r15 [345, 348, 352, 650, 356] (by decide +kernel) (by decide +kernel)
set_option maxRecDepth 100000 in
theorem wl_in16 : GoodIn lw_tbl wsL_law_r16 := goodIn_p wsL_law_r16 [360, 364, 654, 658, 368, 372] (by decide +kernel) (by decide +kernel)
set_option maxRecDepth 100000 in
theorem wl_in17 : GoodIn lw_tbl wsL_law_r17 := goodIn_p wsL_law_r17 [376, 380, 383, 662, 666] (by decide +kernel) (by decide +kernel)
set_option maxRecDepth 100000 in
theorem wl_in18 : GoodIn lw_tbl wsL_law_r18 := goodIn_p wsL_law_r18 [669, 391, 673, 395, 399, 403] (by decide +kernel) (by decide +kernel)
set_option maxRecDepth 100000 in
theorem wl_in19 : GoodIn lw_tbl wsL_law_r19 := goodIn_p wsL_law_r19 [407, 411, 415, 677, 681, 685] (by decide +kernel) (by decide +kernel)
set_option maxRecDepth 100000 in
theorem wl_in20 : GoodIn lw_tbl wsL_law_r20 := goodIn_p wsL_law_r20 [419, 423, 689, 427, 693] (by decide +kernel) (by decide +kernel)
set_option maxRecDepth 100000 in
theorem wl_in21 : GoodIn lw_tbl wsL_law_r21 := goodIn_p wsL_law_r21 [431, 697, 435, 701, 705, 440] (by decide +kernel) (by decide +kernel)
end
section
set_option maxRecDepth 100000 in
theorem wl_in22 : GoodIn lw_tbl wsL_law_r22 := goodIn_p wsL_law_r22 [447, 455, 709] (by decide +kernel) (by decide +kernel)
set_option maxRecDepth 100000 in
theorem wl_in23 : GoodIn lw_tbl wsX20 := goodIn_p wsX20 [] (by decide +kernel) (by decide +kernel)
set_option maxRecDepth 100000 in
theorem wl_in24 : GoodIn lw_tbl wsX30 := goodIn_p wsX30 [] (by decide +kernel) (by decide +kernel)
set_option maxRecDepth 100000 in
theorem wl_in25 : GoodIn lw_tbl wsX10 := goodIn_p wsX10 [] (by decide +kernel) (by decide +kernel)
set_option maxRecDepth 100000 in
theorem wl_in26 : GoodIn lw_tbl wsX00 := goodIn_p wsX00 [] (by decide +kernel) (by decide +kernel)
end
section
theorem wsL_law_good : GoodIn lw_tbl wsL_law := goodIn_app (goodIn_app (goodIn_app (goodIn_app (goodIn_app (goodIn_app wl_in1 (goodIn_app wl_in2 (goodIn_app wl_in3 (goodIn_app wl_in4 (goodIn_app wl_in5 (goodIn_app wl_in6 (goodIn_app wl_in7 (goodIn_app wl_in8 (goodIn_app wl_in9 (goodIn_app wl_in10 (goodIn_app wl_in11 (goodIn_app wl_in12 (goodIn_app wl_in13 (goodIn_app wl_in14 (goodIn_app wl_in15 (goodIn_app wl_in16 (goodIn_app wl_in17 (goodIn_app wl_in18 (goodIn_app wl_in19 (goodIn_app wl_in20 (goodIn_app wl_in21 wl_in22))))))))))))))))))))) wl_in23) wl_in24) wl_in25) wl_in26) (fun _ h => absurd h List.not_mem_nil)
theorem wsL_law_in : ∀ w ∈ wsL_law, w ∈ lw_tbl := fun w h => (wsL_law_good w h).1
theorem inlX0 : ∀ w ∈ wsX00, w ∈ wsL_law := fun _ h => List.mem_append_left _ (List.mem_append_right _ h)
theorem inX0 : ∀ w ∈ wsX00, w ∈ lw_tbl := fun w h => wsL_law_in w (inlX0 w h)
theorem inlX1 : ∀ w ∈ wsX10, w ∈ wsL_law := fun _ h => List.mem_append_left _ (List.mem_append_left _ (List.mem_append_right _ h))
theorem inX1 : ∀ w ∈ wsX10, w ∈ lw_tbl := fun w h => wsL_law_in w (inlX1 w h)
theorem inlX2 : ∀ w ∈ wsX20, w ∈ wsL_law := fun _ h => List.mem_append_left _ (List.mem_append_left _ (List.mem_append_left _ (List.mem_append_left _ (List.mem_append_right _ h))))
theorem inX2 : ∀ w ∈ wsX20, w ∈ lw_tbl := fun w h => wsL_law_in w (inlX2 w h)
theorem inlX3 : ∀ w ∈ wsX30, w ∈ wsL_law := fun _ h => List.mem_append_left _ (List.mem_append_left _ (List.mem_append_left _ (List.mem_append_right _ h)))
theorem inX3 : ∀ w ∈ wsX30, w ∈ lw_tbl := fun w h => wsL_law_in w (inlX3 w h)
theorem inJ6 : ∀ w ∈ wsJ60, w ∈ lw_tbl := by decide +kernel
theorem inJ10 : ∀ w ∈ wsJ100, w ∈ lw_tbl := by decide +kernel
end
section
theorem dX0_init_0 : decode cX0_init 0 = .ok (.aload_n 0, 1) := by decide +kernel
theorem dX0_init_1 : decode cX0_init 1 = .ok (.invokespecial 3, 3) := by decide +kernel
theorem dX0_init_4 : decode cX0_init 4 = .ok (.aload_n 0, 1) := by decide +kernel
theorem dX0_init_5 : decode cX0_init 5 = .ok (.iconst 0, 1) := by decide +kernel
theorem dX0_init_6 : decode cX0_init 6 = .ok (.putfield 11, 3) := by decide +kernel
theorem dX0_init_9 : decode cX0_init 9 = .ok (.aload_n 0, 1) := by decide +kernel
theorem dX0_init_10 : decode cX0_init 10 = .ok (.iconst 0, 1) := by decide +kernel
theorem dX0_init_11 : decode cX0_init 11 = .ok (.putfield 15, 3) := by decide +kernel
theorem dX0_init_14 : decode cX0_init 14 = .ok (.aload_n 0, 1) := by decide +kernel
theorem dX0_init_15 : decode cX0_init 15 = .ok (.iconst 0, 1) := by decide +kernel
theorem dX0_init_16 : decode cX0_init 16 = .ok (.putfield 18, 3) := by decide +kernel
theorem dX0_init_19 : decode cX0_init 19 = .ok (.aload_n 0, 1) := by decide +kernel
theorem dX0_init_20 : decode cX0_init 20 = .ok (.iconst 0, 1) := by decide +kernel
theorem dX0_init_21 : decode cX0_init 21 = .ok (.putfield 21, 3) := by decide +kernel
theorem dX0_init_24 : decode cX0_init 24 = .ok (.aload_n 0, 1) := by decide +kernel
theorem dX0_init_25 : decode cX0_init 25 = .ok (.iconst 0, 1) := by decide +kernel
theorem dX0_init_26 : decode cX0_init 26 = .ok (.putfield 24, 3) := by decide +kernel
theorem dX0_init_29 : decode cX0_init 29 = .ok (.aload_n 0, 1) := by decide +kernel
theorem dX0_init_30 : decode cX0_init 30 = .ok (.iconst 0, 1) := by decide +kernel
theorem dX0_init_31 : decode cX0_init 31 = .ok (.putfield 27, 3) := by decide +kernel
theorem dX0_init_34 : decode cX0_init 34 = .ok (.aload_n 0, 1) := by decide +kernel
theorem dX0_init_35 : decode cX0_init 35 = .ok (.iconst (-1), 1) := by decide +kernel
theorem dX0_init_36 : decode cX0_init 36 = .ok (.putfield 31, 3) := by decide +kernel
theorem dX0_init_39 : decode cX0_init 39 = .ok (.aload_n 0, 1) := by decide +kernel
theorem dX0_init_40 : decode cX0_init 40 = .ok (.iconst 0, 1) := by decide +kernel
theorem dX0_init_41 : decode cX0_init 41 = .ok (.putfield 34, 3) := by decide +kernel
theorem dX0_init_44 : decode cX0_init 44 = .ok (.aload_n 0, 1) := by decide +kernel
theorem dX0_init_45 : decode cX0_init 45 = .ok (.iconst 4, 1) := by decide +kernel
theorem dX0_init_46 : decode cX0_init 46 = .ok (.newarray .int, 2) := by decide +kernel
theorem dX0_init_48 : decode cX0_init 48 = .ok (.putfield 37, 3) := by decide +kernel
theorem dX0_init_51 : decode cX0_init 51 = .ok (.aload_n 0, 1) := by decide +kernel
theorem dX0_init_52 : decode cX0_init 52 = .ok (.iconst 0, 1) := by decide +kernel
theorem dX0_init_53 : decode cX0_init 53 = .ok (.putfield 41, 3) := by decide +kernel
theorem dX0_init_56 : decode cX0_init 56 = .ok (.aload_n 0, 1) := by decide +kernel
theorem dX0_init_57 : decode cX0_init 57 = .ok (.bipush 16, 2) := by decide +kernel
theorem dX0_init_59 : decode cX0_init 59 = .ok (.newarray .int, 2) := by decide +kernel
theorem dX0_init_61 : decode cX0_init 61 = .ok (.putfield 44, 3) := by decide +kernel
theorem dX0_init_64 : decode cX0_init 64 = .ok (.aload_n 0, 1) := by decide +kernel
theorem dX0_init_65 : decode cX0_init 65 = .ok (.iload_n 1, 1) := by decide +kernel
theorem dX0_init_66 : decode cX0_init 66 = .ok (.putfield 47, 3) := by decide +kernel
theorem dX0_init_69 : decode cX0_init 69 = .ok (.aload_n 0, 1) := by decide +kernel
theorem dX0_init_70 : decode cX0_init 70 = .ok (.iload_n 2, 1) := by decide +kernel
theorem dX0_init_71 : decode cX0_init 71 = .ok (.putfield 50, 3) := by decide +kernel
theorem dX0_init_74 : decode cX0_init 74 = .ok (.aload_n 0, 1) := by decide +kernel
theorem dX0_init_75 : decode cX0_init 75 = .ok (.iload_n 3, 1) := by decide +kernel
theorem dX0_init_76 : decode cX0_init 76 = .ok (.putfield 53, 3) := by decide +kernel
theorem dX0_init_79 : decode cX0_init 79 = .ok (.aload_n 0, 1) := by decide +kernel
theorem dX0_init_80 : decode cX0_init 80 = .ok (.iload 4, 2) := by decide +kernel
theorem dX0_init_82 : decode cX0_init 82 = .ok (.putfield 56, 3) := by decide +kernel
theorem dX0_init_85 : decode cX0_init 85 = .ok (.aload_n 0, 1) := by decide +kernel
theorem dX0_init_86 : decode cX0_init 86 = .ok (.iload_n 1, 1) := by decide +kernel
theorem dX0_init_87 : decode cX0_init 87 = .ok (.iconst 1, 1) := by decide +kernel
theorem dX0_init_88 : decode cX0_init 88 = .ok (.if_icmp .ne 10, 3) := by decide +kernel
theorem dX0_init_91 : decode cX0_init 91 = .ok (.iconst 2, 1) := by decide +kernel
theorem dX0_init_92 : decode cX0_init 92 = .ok (.iload 5, 2) := by decide +kernel
theorem dX0_init_94 : decode cX0_init 94 = .ok (.imul, 1) := by decide +kernel
theorem dX0_init_95 : decode cX0_init 95 = .ok (.goto 5, 3) := by decide +kernel
theorem dX0_init_98 : decode cX0_init 98 = .ok (.iload 5, 2) := by decide +kernel
theorem dX0_init_100 : decode cX0_init 100 = .ok (.putfield 59, 3) := by decide +kernel
theorem dX0_init_103 : decode cX0_init 103 = .ok (.aload_n 0, 1) := by decide +kernel
theorem dX0_init_104 : decode cX0_init 104 = .ok (.iload 6, 2) := by decide +kernel
theorem dX0_init_106 : decode cX0_init 106 = .ok (.putfield 62, 3) := by decide +kernel
theorem dX0_init_109 : decode cX0_init 109 = .ok (.aload_n 0, 1) := by decide +kernel
theorem dX0_init_110 : decode cX0_init 110 = .ok (.iload 7, 2) := by decide +kernel
theorem dX0_init_112 : decode cX0_init 112 = .ok (.putfield 65, 3) := by decide +kernel
theorem dX0_init_115 : decode cX0_init 115 = .ok (.return_, 1) := by decide +kernel
theorem dX0_isPermanent_0 : decode cX0_isPermanent 0 = .ok (.aload_n 0, 1) := by decide +kernel
theorem dX0_isPermanent_1 : decode cX0_isPermanent 1 = .ok (.getfield 47, 3) := by decide +kernel
theorem dX0_isPermanent_4 : decode cX0_isPermanent 4 = .ok (.iconst 1, 1) := by decide +kernel
theorem dX0_isPermanent_5 : decode cX0_isPermanent 5 = .ok (.if_icmp .ne 7, 3) := by decide +kernel
theorem dX0_isPermanent_8 : decode cX0_isPermanent 8 = .ok (.iconst 1, 1) := by decide +kernel
theorem dX0_isPermanent_9 : decode cX0_isPermanent 9 = .ok (.goto 4, 3) := by decide +kernel
theorem dX0_isPermanent_12 : decode cX0_isPermanent 12 = .ok (.iconst 0, 1) := by decide +kernel
theorem dX0_isPermanent_13 : decode cX0_isPermanent 13 = .ok (.ireturn, 1) := by decide +kernel
theorem dX0_isTroubled_0 : decode cX0_isTroubled 0 = .ok (.aload_n 0, 1) := by decide +kernel
theorem dX0_isTroubled_1 : decode cX0_isTroubled 1 = .ok (.getfield 11, 3) := by decide +kernel
theorem dX0_isTroubled_4 : decode cX0_isTroubled 4 = .ok (.iconst 1, 1) := by decide +kernel
theorem dX0_isTroubled_5 : decode cX0_isTroubled 5 = .ok (.if_icmp .eq 11, 3) := by decide +kernel
theorem dX0_isTroubled_8 : decode cX0_isTroubled 8 = .ok (.aload_n 0, 1) := by decide +kernel
theorem dX0_isTroubled_9 : decode cX0_isTroubled 9 = .ok (.getfield 11, 3) := by decide +kernel
theorem dX0_isTroubled_12 : decode cX0_isTroubled 12 = .ok (.iconst 2, 1) := by decide +kernel
theorem dX0_isTroubled_13 : decode cX0_isTroubled 13 = .ok (.if_icmp .ne 7, 3) := by decide +kernel
theorem dX0_isTroubled_16 : decode cX0_isTroubled 16 = .ok (.iconst 1, 1) := by decide +kernel
theorem dX0_isTroubled_17 : decode cX0_isTroubled 17 = .ok (.goto 4, 3) := by decide +kernel
theorem dX0_isTroubled_20 : decode cX0_isTroubled 20 = .ok (.iconst 0, 1) := by decide +kernel
theorem dX0_isTroubled_21 : decode cX0_isTroubled 21 = .ok (.ireturn, 1) := by decide +kernel
theorem dX0_isFrozen_0 : decode cX0_isFrozen 0 = .ok (.aload_n 0, 1) := by decide +kernel
theorem dX0_isFrozen_1 : decode cX0_isFrozen 1 = .ok (.getfield 31, 3) := by decide +kernel
theorem dX0_isFrozen_4 : decode cX0_isFrozen 4 = .ok (.iconst (-1), 1) := by decide +kernel
theorem dX0_isFrozen_5 : decode cX0_isFrozen 5 = .ok (.if_icmp .eq 7, 3) := by decide +kernel
theorem dX0_isFrozen_8 : decode cX0_isFrozen 8 = .ok (.iconst 1, 1) := by decide +kernel
theorem dX0_isFrozen_9 : decode cX0_isFrozen 9 = .ok (.goto 4, 3) := by decide +kernel
theorem dX0_isFrozen_12 : decode cX0_isFrozen 12 = .ok (.iconst 0, 1) := by decide +kernel
theorem dX0_isFrozen_13 : decode cX0_isFrozen 13 = .ok (.ireturn, 1) := by decide +kernel
set_option maxRecDepth 20000 in
theorem ggX0_numberOf_X0_isFrozen : GoodIn wsX0_numberOf wsX0_isFrozen := goodIn_r _ [11, 12, 16, 17, 18, 19, 20, 21, 22, 23, 24, 25, 26, 27, 28, 29, 30, 31, 32, 33] (by decide +kernel) (by decide +kernel)
set_option maxRecDepth 20000 in
theorem gX0_numberOf_X0_isFrozen : GoodIn wsX0_numberOf (wsV RX0 68 RX0 yX0_isFrozen wsX0_isFrozen) := goodIn_app (goodIn_of _ (by decide +kernel)) ggX0_numberOf_X0_isFrozen
set_option maxRecDepth 20000 in
theorem ggX0_numberOf_X2_asNumber : GoodIn wsX0_numberOf wsX2_asNumber := goodIn_r _ [15] (by decide +kernel) (by decide +kernel)
set_option maxRecDepth 20000 in
theorem gX0_numberOf_X2_asNumber_n72 : GoodIn wsX0_numberOf (wsX2_asNumber) := ggX0_numberOf_X2_asNumber
theorem dX0_numberOf_0 : decode cX0_numberOf 0 = .ok (.iload_n 1, 1) := by decide +kernel
theorem dX0_numberOf_1 : decode cX0_numberOf 1 = .ok (.tableswitch 88 0 7 #[47, 52, 57, 62, 88, 67, 75, 83], 47) := by decide +kernel
theorem dX0_numberOf_48 : decode cX0_numberOf 48 = .ok (.aload_n 0, 1) := by decide +kernel
theorem dX0_numberOf_49 : decode cX0_numberOf 49 = .ok (.getfield 11, 3) := by decide +kernel
theorem dX0_numberOf_52 : decode cX0_numberOf 52 = .ok (.ireturn, 1) := by decide +kernel
theorem dX0_numberOf_53 : decode cX0_numberOf 53 = .ok (.aload_n 0, 1) := by decide +kernel
theorem dX0_numberOf_54 : decode cX0_numberOf 54 = .ok (.getfield 15, 3) := by decide +kernel
theorem dX0_numberOf_57 : decode cX0_numberOf 57 = .ok (.ireturn, 1) := by decide +kernel
theorem dX0_numberOf_58 : decode cX0_numberOf 58 = .ok (.aload_n 0, 1) := by decide +kernel
theorem dX0_numberOf_59 : decode cX0_numberOf 59 = .ok (.getfield 18, 3) := by decide +kernel
theorem dX0_numberOf_62 : decode cX0_numberOf 62 = .ok (.ireturn, 1) := by decide +kernel
theorem dX0_numberOf_63 : decode cX0_numberOf 63 = .ok (.aload_n 0, 1) := by decide +kernel
theorem dX0_numberOf_64 : decode cX0_numberOf 64 = .ok (.getfield 21, 3) := by decide +kernel
theorem dX0_numberOf_67 : decode cX0_numberOf 67 = .ok (.ireturn, 1) := by decide +kernel
theorem dX0_numberOf_68 : decode cX0_numberOf 68 = .ok (.aload_n 0, 1) := by decide +kernel
theorem dX0_numberOf_69 : decode cX0_numberOf 69 = .ok (.invokevirtual 68, 3) := by decide +kernel
theorem dX0_numberOf_72 : decode cX0_numberOf 72 = .ok (.invokestatic 72, 3) := by decide +kernel
theorem dX0_numberOf_75 : decode cX0_numberOf 75 = .ok (.ireturn, 1) := by decide +kernel
theorem dX0_numberOf_76 : decode cX0_numberOf 76 = .ok (.aload_n 0, 1) := by decide +kernel
theorem dX0_numberOf_77 : decode cX0_numberOf 77 = .ok (.getfield 27, 3) := by decide +kernel
theorem dX0_numberOf_80 : decode cX0_numberOf 80 = .ok (.invokestatic 72, 3) := by decide +kernel
theorem dX0_numberOf_83 : decode cX0_numberOf 83 = .ok (.ireturn, 1) := by decide +kernel
theorem dX0_numberOf_84 : decode cX0_numberOf 84 = .ok (.aload_n 0, 1) := by decide +kernel
theorem dX0_numberOf_85 : decode cX0_numberOf 85 = .ok (.getfield 47, 3) := by decide +kernel
theorem dX0_numberOf_88 : decode cX0_numberOf 88 = .ok (.ireturn, 1) := by decide +kernel
theorem dX0_numberOf_89 : decode cX0_numberOf 89 = .ok (.bipush (-2), 2) := by decide +kernel
theorem dX0_numberOf_91 : decode cX0_numberOf 91 = .ok (.ireturn, 1) := by decide +kernel
theorem dX0_tell_0 : decode cX0_tell 0 = .ok (.iload_n 1, 1) := by decide +kernel
theorem dX0_tell_1 : decode cX0_tell 1 = .ok (.ifCond .eq 11, 3) := by decide +kernel
theorem dX0_tell_4 : decode cX0_tell 4 = .ok (.aload_n 0, 1) := by decide +kernel
theorem dX0_tell_5 : decode cX0_tell 5 = .ok (.iconst 2, 1) := by decide +kernel
theorem dX0_tell_6 : decode cX0_tell 6 = .ok (.putfield 24, 3) := by decide +kernel
theorem dX0_tell_9 : decode cX0_tell 9 = .ok (.goto 15, 3) := by decide +kernel
theorem dX0_tell_12 : decode cX0_tell 12 = .ok (.aload_n 0, 1) := by decide +kernel
theorem dX0_tell_13 : decode cX0_tell 13 = .ok (.getfield 24, 3) := by decide +kernel
theorem dX0_tell_16 : decode cX0_tell 16 = .ok (.ifCond .ne 8, 3) := by decide +kernel
theorem dX0_tell_19 : decode cX0_tell 19 = .ok (.aload_n 0, 1) := by decide +kernel
theorem dX0_tell_20 : decode cX0_tell 20 = .ok (.iconst 1, 1) := by decide +kernel
theorem dX0_tell_21 : decode cX0_tell 21 = .ok (.putfield 24, 3) := by decide +kernel
theorem dX0_tell_24 : decode cX0_tell 24 = .ok (.return_, 1) := by decide +kernel
set_option maxRecDepth 20000 in
theorem ggX0_countDrive_X0_countBad : GoodIn wsX0_countDrive wsX0_countBad := goodIn_r _ [8, 9, 10, 11, 2, 12, 28, 29, 30, 31, 32, 33, 34, 35, 36, 37, 38, 39, 40, 41, 42, 43, 44, 45] (by decide +kernel) (by decide +kernel)
set_option maxRecDepth 20000 in
theorem gX0_countDrive_X0_countBad : GoodIn wsX0_countDrive (wsV RX0 76 RX0 yX0_countBad wsX0_countBad) := goodIn_app (goodIn_of _ (by decide +kernel)) ggX0_countDrive_X0_countBad
set_option maxRecDepth 20000 in
theorem ggX0_countDrive_X0_countGood : GoodIn wsX0_countDrive wsX0_countGood := goodIn_r _ [16, 11, 9, 2, 17, 10, 28, 29, 30, 31, 32, 33, 34, 35, 36, 37, 38, 39, 40, 41, 42, 43, 44, 45] (by decide +kernel) (by decide +kernel)
set_option maxRecDepth 20000 in
theorem gX0_countDrive_X0_countGood : GoodIn wsX0_countDrive (wsV RX0 80 RX0 yX0_countGood wsX0_countGood) := goodIn_app (goodIn_of _ (by decide +kernel)) ggX0_countDrive_X0_countGood
set_option maxRecDepth 20000 in
theorem ggX0_countDrive_X0_growOlder : GoodIn wsX0_countDrive wsX0_growOlder := goodIn_r _ [21, 10, 22, 2, 23, 24, 25, 7, 26, 27, 28, 29, 30, 31, 32, 33, 34, 35, 36, 37, 38, 39, 40, 41, 42, 43, 44, 45] (by decide +kernel) (by decide +kernel)
set_option maxRecDepth 20000 in
theorem gX0_countDrive_X0_growOlder : GoodIn wsX0_countDrive (wsV RX0 83 RX0 yX0_growOlder wsX0_growOlder) := goodIn_app (goodIn_of _ (by decide +kernel)) ggX0_countDrive_X0_growOlder
theorem dX0_countDrive_0 : decode cX0_countDrive 0 = .ok (.iconst 0, 1) := by decide +kernel
theorem dX0_countDrive_1 : decode cX0_countDrive 1 = .ok (.istore_n 2, 1) := by decide +kernel
theorem dX0_countDrive_2 : decode cX0_countDrive 2 = .ok (.aload_n 0, 1) := by decide +kernel
theorem dX0_countDrive_3 : decode cX0_countDrive 3 = .ok (.getfield 24, 3) := by decide +kernel
theorem dX0_countDrive_6 : decode cX0_countDrive 6 = .ok (.iconst 2, 1) := by decide +kernel
theorem dX0_countDrive_7 : decode cX0_countDrive 7 = .ok (.if_icmp .ne 12, 3) := by decide +kernel
theorem dX0_countDrive_10 : decode cX0_countDrive 10 = .ok (.aload_n 0, 1) := by decide +kernel
theorem dX0_countDrive_11 : decode cX0_countDrive 11 = .ok (.iload_n 1, 1) := by decide +kernel
theorem dX0_countDrive_12 : decode cX0_countDrive 12 = .ok (.invokevirtual 76, 3) := by decide +kernel
theorem dX0_countDrive_15 : decode cX0_countDrive 15 = .ok (.istore_n 2, 1) := by decide +kernel
theorem dX0_countDrive_16 : decode cX0_countDrive 16 = .ok (.goto 15, 3) := by decide +kernel
theorem dX0_countDrive_19 : decode cX0_countDrive 19 = .ok (.aload_n 0, 1) := by decide +kernel
theorem dX0_countDrive_20 : decode cX0_countDrive 20 = .ok (.getfield 24, 3) := by decide +kernel
theorem dX0_countDrive_23 : decode cX0_countDrive 23 = .ok (.iconst 1, 1) := by decide +kernel
theorem dX0_countDrive_24 : decode cX0_countDrive 24 = .ok (.if_icmp .ne 7, 3) := by decide +kernel
theorem dX0_countDrive_27 : decode cX0_countDrive 27 = .ok (.aload_n 0, 1) := by decide +kernel
theorem dX0_countDrive_28 : decode cX0_countDrive 28 = .ok (.invokevirtual 80, 3) := by decide +kernel
theorem dX0_countDrive_31 : decode cX0_countDrive 31 = .ok (.aload_n 0, 1) := by decide +kernel
theorem dX0_countDrive_32 : decode cX0_countDrive 32 = .ok (.getfield 11, 3) := by decide +kernel
theorem dX0_countDrive_35 : decode cX0_countDrive 35 = .ok (.iconst 3, 1) := by decide +kernel
theorem dX0_countDrive_36 : decode cX0_countDrive 36 = .ok (.if_icmp .ne 15, 3) := by decide +kernel
theorem dX0_countDrive_39 : decode cX0_countDrive 39 = .ok (.aload_n 0, 1) := by decide +kernel
theorem dX0_countDrive_40 : decode cX0_countDrive 40 = .ok (.getfield 24, 3) := by decide +kernel
theorem dX0_countDrive_43 : decode cX0_countDrive 43 = .ok (.iconst 2, 1) := by decide +kernel
theorem dX0_countDrive_44 : decode cX0_countDrive 44 = .ok (.if_icmp .eq 7, 3) := by decide +kernel
theorem dX0_countDrive_47 : decode cX0_countDrive 47 = .ok (.aload_n 0, 1) := by decide +kernel
theorem dX0_countDrive_48 : decode cX0_countDrive 48 = .ok (.invokevirtual 83, 3) := by decide +kernel
theorem dX0_countDrive_51 : decode cX0_countDrive 51 = .ok (.aload_n 0, 1) := by decide +kernel
theorem dX0_countDrive_52 : decode cX0_countDrive 52 = .ok (.getfield 24, 3) := by decide +kernel
theorem dX0_countDrive_55 : decode cX0_countDrive 55 = .ok (.ifCond .eq 8, 3) := by decide +kernel
theorem dX0_countDrive_58 : decode cX0_countDrive 58 = .ok (.aload_n 0, 1) := by decide +kernel
theorem dX0_countDrive_59 : decode cX0_countDrive 59 = .ok (.iconst 1, 1) := by decide +kernel
theorem dX0_countDrive_60 : decode cX0_countDrive 60 = .ok (.putfield 27, 3) := by decide +kernel
theorem dX0_countDrive_63 : decode cX0_countDrive 63 = .ok (.aload_n 0, 1) := by decide +kernel
theorem dX0_countDrive_64 : decode cX0_countDrive 64 = .ok (.iconst 0, 1) := by decide +kernel
theorem dX0_countDrive_65 : decode cX0_countDrive 65 = .ok (.putfield 24, 3) := by decide +kernel
theorem dX0_countDrive_68 : decode cX0_countDrive 68 = .ok (.iload_n 2, 1) := by decide +kernel
theorem dX0_countDrive_69 : decode cX0_countDrive 69 = .ok (.ireturn, 1) := by decide +kernel
theorem dX0_countBad_0 : decode cX0_countBad 0 = .ok (.aload_n 0, 1) := by decide +kernel
theorem dX0_countBad_1 : decode cX0_countBad 1 = .ok (.iconst 0, 1) := by decide +kernel
theorem dX0_countBad_2 : decode cX0_countBad 2 = .ok (.putfield 18, 3) := by decide +kernel
theorem dX0_countBad_5 : decode cX0_countBad 5 = .ok (.aload_n 0, 1) := by decide +kernel
theorem dX0_countBad_6 : decode cX0_countBad 6 = .ok (.iconst 0, 1) := by decide +kernel
theorem dX0_countBad_7 : decode cX0_countBad 7 = .ok (.putfield 21, 3) := by decide +kernel
theorem dX0_countBad_10 : decode cX0_countBad 10 = .ok (.aload_n 0, 1) := by decide +kernel
theorem dX0_countBad_11 : decode cX0_countBad 11 = .ok (.dup, 1) := by decide +kernel
theorem dX0_countBad_12 : decode cX0_countBad 12 = .ok (.getfield 15, 3) := by decide +kernel
theorem dX0_countBad_15 : decode cX0_countBad 15 = .ok (.iconst 1, 1) := by decide +kernel
theorem dX0_countBad_16 : decode cX0_countBad 16 = .ok (.iadd, 1) := by decide +kernel
theorem dX0_countBad_17 : decode cX0_countBad 17 = .ok (.putfield 15, 3) := by decide +kernel
theorem dX0_countBad_20 : decode cX0_countBad 20 = .ok (.aload_n 0, 1) := by decide +kernel
theorem dX0_countBad_21 : decode cX0_countBad 21 = .ok (.getfield 11, 3) := by decide +kernel
theorem dX0_countBad_24 : decode cX0_countBad 24 = .ok (.ifCond .ne 8, 3) := by decide +kernel
theorem dX0_countBad_27 : decode cX0_countBad 27 = .ok (.aload_n 0, 1) := by decide +kernel
theorem dX0_countBad_28 : decode cX0_countBad 28 = .ok (.iconst 1, 1) := by decide +kernel
theorem dX0_countBad_29 : decode cX0_countBad 29 = .ok (.putfield 11, 3) := by decide +kernel
theorem dX0_countBad_32 : decode cX0_countBad 32 = .ok (.aload_n 0, 1) := by decide +kernel
theorem dX0_countBad_33 : decode cX0_countBad 33 = .ok (.getfield 11, 3) := by decide +kernel
theorem dX0_countBad_36 : decode cX0_countBad 36 = .ok (.iconst 3, 1) := by decide +kernel
theorem dX0_countBad_37 : decode cX0_countBad 37 = .ok (.if_icmp .eq 22, 3) := by decide +kernel
theorem dX0_countBad_40 : decode cX0_countBad 40 = .ok (.aload_n 0, 1) := by decide +kernel
theorem dX0_countBad_41 : decode cX0_countBad 41 = .ok (.getfield 11, 3) := by decide +kernel
theorem dX0_countBad_44 : decode cX0_countBad 44 = .ok (.iconst 1, 1) := by decide +kernel
theorem dX0_countBad_45 : decode cX0_countBad 45 = .ok (.if_icmp .ne 18, 3) := by decide +kernel
theorem dX0_countBad_48 : decode cX0_countBad 48 = .ok (.aload_n 0, 1) := by decide +kernel
theorem dX0_countBad_49 : decode cX0_countBad 49 = .ok (.getfield 15, 3) := by decide +kernel
theorem dX0_countBad_52 : decode cX0_countBad 52 = .ok (.aload_n 0, 1) := by decide +kernel
theorem dX0_countBad_53 : decode cX0_countBad 53 = .ok (.getfield 53, 3) := by decide +kernel
theorem dX0_countBad_56 : decode cX0_countBad 56 = .ok (.if_icmp .lt 7, 3) := by decide +kernel
theorem dX0_countBad_59 : decode cX0_countBad 59 = .ok (.iconst 1, 1) := by decide +kernel
theorem dX0_countBad_60 : decode cX0_countBad 60 = .ok (.goto 4, 3) := by decide +kernel
theorem dX0_countBad_63 : decode cX0_countBad 63 = .ok (.iconst 0, 1) := by decide +kernel
theorem dX0_countBad_64 : decode cX0_countBad 64 = .ok (.istore_n 2, 1) := by decide +kernel
theorem dX0_countBad_65 : decode cX0_countBad 65 = .ok (.iload_n 2, 1) := by decide +kernel
theorem dX0_countBad_66 : decode cX0_countBad 66 = .ok (.ifCond .eq 7, 3) := by decide +kernel
theorem dX0_countBad_69 : decode cX0_countBad 69 = .ok (.iload_n 1, 1) := by decide +kernel
theorem dX0_countBad_70 : decode cX0_countBad 70 = .ok (.ifCond .eq 5, 3) := by decide +kernel
theorem dX0_countBad_73 : decode cX0_countBad 73 = .ok (.iconst 0, 1) := by decide +kernel
theorem dX0_countBad_74 : decode cX0_countBad 74 = .ok (.ireturn, 1) := by decide +kernel
theorem dX0_countBad_75 : decode cX0_countBad 75 = .ok (.aload_n 0, 1) := by decide +kernel
theorem dX0_countBad_76 : decode cX0_countBad 76 = .ok (.iconst 2, 1) := by decide +kernel
theorem dX0_countBad_77 : decode cX0_countBad 77 = .ok (.putfield 11, 3) := by decide +kernel
theorem dX0_countBad_80 : decode cX0_countBad 80 = .ok (.iconst 1, 1) := by decide +kernel
theorem dX0_countBad_81 : decode cX0_countBad 81 = .ok (.ireturn, 1) := by decide +kernel
theorem dX0_countGood_0 : decode cX0_countGood 0 = .ok (.aload_n 0, 1) := by decide +kernel
theorem dX0_countGood_1 : decode cX0_countGood 1 = .ok (.iconst 0, 1) := by decide +kernel
theorem dX0_countGood_2 : decode cX0_countGood 2 = .ok (.putfield 15, 3) := by decide +kernel
theorem dX0_countGood_5 : decode cX0_countGood 5 = .ok (.aload_n 0, 1) := by decide +kernel
theorem dX0_countGood_6 : decode cX0_countGood 6 = .ok (.dup, 1) := by decide +kernel
theorem dX0_countGood_7 : decode cX0_countGood 7 = .ok (.getfield 18, 3) := by decide +kernel
theorem dX0_countGood_10 : decode cX0_countGood 10 = .ok (.iconst 1, 1) := by decide +kernel
theorem dX0_countGood_11 : decode cX0_countGood 11 = .ok (.iadd, 1) := by decide +kernel
theorem dX0_countGood_12 : decode cX0_countGood 12 = .ok (.putfield 18, 3) := by decide +kernel
theorem dX0_countGood_15 : decode cX0_countGood 15 = .ok (.aload_n 0, 1) := by decide +kernel
theorem dX0_countGood_16 : decode cX0_countGood 16 = .ok (.getfield 11, 3) := by decide +kernel
theorem dX0_countGood_19 : decode cX0_countGood 19 = .ok (.iconst 1, 1) := by decide +kernel
theorem dX0_countGood_20 : decode cX0_countGood 20 = .ok (.if_icmp .ne 19, 3) := by decide +kernel
theorem dX0_countGood_23 : decode cX0_countGood 23 = .ok (.aload_n 0, 1) := by decide +kernel
theorem dX0_countGood_24 : decode cX0_countGood 24 = .ok (.getfield 18, 3) := by decide +kernel
theorem dX0_countGood_27 : decode cX0_countGood 27 = .ok (.iconst 1, 1) := by decide +kernel
theorem dX0_countGood_28 : decode cX0_countGood 28 = .ok (.if_icmp .ne 11, 3) := by decide +kernel
theorem dX0_countGood_31 : decode cX0_countGood 31 = .ok (.aload_n 0, 1) := by decide +kernel
theorem dX0_countGood_32 : decode cX0_countGood 32 = .ok (.iconst 0, 1) := by decide +kernel
theorem dX0_countGood_33 : decode cX0_countGood 33 = .ok (.putfield 11, 3) := by decide +kernel
theorem dX0_countGood_36 : decode cX0_countGood 36 = .ok (.goto 32, 3) := by decide +kernel
theorem dX0_countGood_39 : decode cX0_countGood 39 = .ok (.aload_n 0, 1) := by decide +kernel
theorem dX0_countGood_40 : decode cX0_countGood 40 = .ok (.getfield 11, 3) := by decide +kernel
theorem dX0_countGood_43 : decode cX0_countGood 43 = .ok (.iconst 2, 1) := by decide +kernel
theorem dX0_countGood_44 : decode cX0_countGood 44 = .ok (.if_icmp .ne 24, 3) := by decide +kernel
theorem dX0_countGood_47 : decode cX0_countGood 47 = .ok (.aload_n 0, 1) := by decide +kernel
theorem dX0_countGood_48 : decode cX0_countGood 48 = .ok (.getfield 18, 3) := by decide +kernel
theorem dX0_countGood_51 : decode cX0_countGood 51 = .ok (.aload_n 0, 1) := by decide +kernel
theorem dX0_countGood_52 : decode cX0_countGood 52 = .ok (.getfield 56, 3) := by decide +kernel
theorem dX0_countGood_55 : decode cX0_countGood 55 = .ok (.if_icmp .ne 13, 3) := by decide +kernel
theorem dX0_countGood_58 : decode cX0_countGood 58 = .ok (.aload_n 0, 1) := by decide +kernel
theorem dX0_countGood_59 : decode cX0_countGood 59 = .ok (.iconst 3, 1) := by decide +kernel
theorem dX0_countGood_60 : decode cX0_countGood 60 = .ok (.putfield 11, 3) := by decide +kernel
theorem dX0_countGood_63 : decode cX0_countGood 63 = .ok (.aload_n 0, 1) := by decide +kernel
theorem dX0_countGood_64 : decode cX0_countGood 64 = .ok (.iconst 0, 1) := by decide +kernel
theorem dX0_countGood_65 : decode cX0_countGood 65 = .ok (.putfield 21, 3) := by decide +kernel
theorem dX0_countGood_68 : decode cX0_countGood 68 = .ok (.return_, 1) := by decide +kernel
set_option maxRecDepth 20000 in
theorem ggX0_growOlder_X0_thaw : GoodIn wsX0_growOlder wsX0_thaw := goodIn_r _ [8, 9, 10, 11, 12, 13, 14, 15, 16, 17, 18, 19, 20, 21, 22, 23, 24, 25, 26, 27] (by decide +kernel) (by decide +kernel)
set_option maxRecDepth 20000 in
theorem gX0_growOlder_X0_thaw : GoodIn wsX0_growOlder (wsV RX0 86 RX0 yX0_thaw wsX0_thaw) := goodIn_app (goodIn_of _ (by decide +kernel)) ggX0_growOlder_X0_thaw
theorem dX0_growOlder_0 : decode cX0_growOlder 0 = .ok (.aload_n 0, 1) := by decide +kernel
theorem dX0_growOlder_1 : decode cX0_growOlder 1 = .ok (.dup, 1) := by decide +kernel
theorem dX0_growOlder_2 : decode cX0_growOlder 2 = .ok (.getfield 21, 3) := by decide +kernel
theorem dX0_growOlder_5 : decode cX0_growOlder 5 = .ok (.iconst 1, 1) := by decide +kernel
theorem dX0_growOlder_6 : decode cX0_growOlder 6 = .ok (.iadd, 1) := by decide +kernel
theorem dX0_growOlder_7 : decode cX0_growOlder 7 = .ok (.putfield 21, 3) := by decide +kernel
theorem dX0_growOlder_10 : decode cX0_growOlder 10 = .ok (.aload_n 0, 1) := by decide +kernel
theorem dX0_growOlder_11 : decode cX0_growOlder 11 = .ok (.getfield 21, 3) := by decide +kernel
theorem dX0_growOlder_14 : decode cX0_growOlder 14 = .ok (.aload_n 0, 1) := by decide +kernel
theorem dX0_growOlder_15 : decode cX0_growOlder 15 = .ok (.getfield 59, 3) := by decide +kernel
theorem dX0_growOlder_18 : decode cX0_growOlder 18 = .ok (.if_icmp .ge 4, 3) := by decide +kernel
theorem dX0_growOlder_21 : decode cX0_growOlder 21 = .ok (.return_, 1) := by decide +kernel
theorem dX0_growOlder_22 : decode cX0_growOlder 22 = .ok (.aload_n 0, 1) := by decide +kernel
theorem dX0_growOlder_23 : decode cX0_growOlder 23 = .ok (.iconst 0, 1) := by decide +kernel
theorem dX0_growOlder_24 : decode cX0_growOlder 24 = .ok (.putfield 11, 3) := by decide +kernel
theorem dX0_growOlder_27 : decode cX0_growOlder 27 = .ok (.aload_n 0, 1) := by decide +kernel
theorem dX0_growOlder_28 : decode cX0_growOlder 28 = .ok (.invokevirtual 86, 3) := by decide +kernel
theorem dX0_growOlder_31 : decode cX0_growOlder 31 = .ok (.return_, 1) := by decide +kernel
theorem dX0_noteSet_0 : decode cX0_noteSet 0 = .ok (.aload_n 0, 1) := by decide +kernel
theorem dX0_noteSet_1 : decode cX0_noteSet 1 = .ok (.dup, 1) := by decide +kernel
theorem dX0_noteSet_2 : decode cX0_noteSet 2 = .ok (.getfield 41, 3) := by decide +kernel
theorem dX0_noteSet_5 : decode cX0_noteSet 5 = .ok (.iconst 1, 1) := by decide +kernel
theorem dX0_noteSet_6 : decode cX0_noteSet 6 = .ok (.iadd, 1) := by decide +kernel
theorem dX0_noteSet_7 : decode cX0_noteSet 7 = .ok (.putfield 41, 3) := by decide +kernel
theorem dX0_noteSet_10 : decode cX0_noteSet 10 = .ok (.iconst 0, 1) := by decide +kernel
theorem dX0_noteSet_11 : decode cX0_noteSet 11 = .ok (.istore_n 2, 1) := by decide +kernel
theorem dX0_noteSet_12 : decode cX0_noteSet 12 = .ok (.iload_n 2, 1) := by decide +kernel
theorem dX0_noteSet_13 : decode cX0_noteSet 13 = .ok (.bipush 16, 2) := by decide +kernel
theorem dX0_noteSet_15 : decode cX0_noteSet 15 = .ok (.if_icmp .ge 27, 3) := by decide +kernel
theorem dX0_noteSet_18 : decode cX0_noteSet 18 = .ok (.iload_n 1, 1) := by decide +kernel
theorem dX0_noteSet_19 : decode cX0_noteSet 19 = .ok (.iload_n 2, 1) := by decide +kernel
theorem dX0_noteSet_20 : decode cX0_noteSet 20 = .ok (.ishr, 1) := by decide +kernel
theorem dX0_noteSet_21 : decode cX0_noteSet 21 = .ok (.iconst 1, 1) := by decide +kernel
theorem dX0_noteSet_22 : decode cX0_noteSet 22 = .ok (.iand, 1) := by decide +kernel
theorem dX0_noteSet_23 : decode cX0_noteSet 23 = .ok (.ifCond .eq 13, 3) := by decide +kernel
theorem dX0_noteSet_26 : decode cX0_noteSet 26 = .ok (.aload_n 0, 1) := by decide +kernel
theorem dX0_noteSet_27 : decode cX0_noteSet 27 = .ok (.getfield 44, 3) := by decide +kernel
theorem dX0_noteSet_30 : decode cX0_noteSet 30 = .ok (.iload_n 2, 1) := by decide +kernel
theorem dX0_noteSet_31 : decode cX0_noteSet 31 = .ok (.dup2, 1) := by decide +kernel
theorem dX0_noteSet_32 : decode cX0_noteSet 32 = .ok (.iaload, 1) := by decide +kernel
theorem dX0_noteSet_33 : decode cX0_noteSet 33 = .ok (.iconst 1, 1) := by decide +kernel
theorem dX0_noteSet_34 : decode cX0_noteSet 34 = .ok (.iadd, 1) := by decide +kernel
theorem dX0_noteSet_35 : decode cX0_noteSet 35 = .ok (.iastore, 1) := by decide +kernel
theorem dX0_noteSet_36 : decode cX0_noteSet 36 = .ok (.iinc 2 1, 3) := by decide +kernel
theorem dX0_noteSet_39 : decode cX0_noteSet 39 = .ok (.goto (-27), 3) := by decide +kernel
theorem dX0_noteSet_42 : decode cX0_noteSet 42 = .ok (.return_, 1) := by decide +kernel
theorem dX0_freeze_0 : decode cX0_freeze 0 = .ok (.aload_n 1, 1) := by decide +kernel
theorem dX0_freeze_1 : decode cX0_freeze 1 = .ok (.iconst 0, 1) := by decide +kernel
theorem dX0_freeze_2 : decode cX0_freeze 2 = .ok (.aload_n 0, 1) := by decide +kernel
theorem dX0_freeze_3 : decode cX0_freeze 3 = .ok (.getfield 37, 3) := by decide +kernel
theorem dX0_freeze_6 : decode cX0_freeze 6 = .ok (.iconst 0, 1) := by decide +kernel
theorem dX0_freeze_7 : decode cX0_freeze 7 = .ok (.iconst 4, 1) := by decide +kernel
theorem dX0_freeze_8 : decode cX0_freeze 8 = .ok (.invokestatic 89, 3) := by decide +kernel
theorem dX0_freeze_11 : decode cX0_freeze 11 = .ok (.aload_n 0, 1) := by decide +kernel
theorem dX0_freeze_12 : decode cX0_freeze 12 = .ok (.iload_n 2, 1) := by decide +kernel
theorem dX0_freeze_13 : decode cX0_freeze 13 = .ok (.putfield 31, 3) := by decide +kernel
theorem dX0_freeze_16 : decode cX0_freeze 16 = .ok (.aload_n 0, 1) := by decide +kernel
theorem dX0_freeze_17 : decode cX0_freeze 17 = .ok (.iload_n 3, 1) := by decide +kernel
theorem dX0_freeze_18 : decode cX0_freeze 18 = .ok (.putfield 34, 3) := by decide +kernel
theorem dX0_freeze_21 : decode cX0_freeze 21 = .ok (.return_, 1) := by decide +kernel
theorem dX0_thaw_0 : decode cX0_thaw 0 = .ok (.aload_n 0, 1) := by decide +kernel
theorem dX0_thaw_1 : decode cX0_thaw 1 = .ok (.iconst (-1), 1) := by decide +kernel
theorem dX0_thaw_2 : decode cX0_thaw 2 = .ok (.putfield 31, 3) := by decide +kernel
theorem dX0_thaw_5 : decode cX0_thaw 5 = .ok (.return_, 1) := by decide +kernel
theorem dX0_goesAheadOf_0 : decode cX0_goesAheadOf 0 = .ok (.aload_n 0, 1) := by decide +kernel
theorem dX0_goesAheadOf_1 : decode cX0_goesAheadOf 1 = .ok (.getfield 62, 3) := by decide +kernel
theorem dX0_goesAheadOf_4 : decode cX0_goesAheadOf 4 = .ok (.aload_n 1, 1) := by decide +kernel
theorem dX0_goesAheadOf_5 : decode cX0_goesAheadOf 5 = .ok (.getfield 62, 3) := by decide +kernel
theorem dX0_goesAheadOf_8 : decode cX0_goesAheadOf 8 = .ok (.if_icmp .lt 25, 3) := by decide +kernel
theorem dX0_goesAheadOf_11 : decode cX0_goesAheadOf 11 = .ok (.aload_n 0, 1) := by decide +kernel
theorem dX0_goesAheadOf_12 : decode cX0_goesAheadOf 12 = .ok (.getfield 62, 3) := by decide +kernel
theorem dX0_goesAheadOf_15 : decode cX0_goesAheadOf 15 = .ok (.aload_n 1, 1) := by decide +kernel
theorem dX0_goesAheadOf_16 : decode cX0_goesAheadOf 16 = .ok (.getfield 62, 3) := by decide +kernel
theorem dX0_goesAheadOf_19 : decode cX0_goesAheadOf 19 = .ok (.if_icmp .ne 18, 3) := by decide +kernel
theorem dX0_goesAheadOf_22 : decode cX0_goesAheadOf 22 = .ok (.aload_n 0, 1) := by decide +kernel
theorem dX0_goesAheadOf_23 : decode cX0_goesAheadOf 23 = .ok (.getfield 34, 3) := by decide +kernel
theorem dX0_goesAheadOf_26 : decode cX0_goesAheadOf 26 = .ok (.aload_n 1, 1) := by decide +kernel
theorem dX0_goesAheadOf_27 : decode cX0_goesAheadOf 27 = .ok (.getfield 34, 3) := by decide +kernel
theorem dX0_goesAheadOf_30 : decode cX0_goesAheadOf 30 = .ok (.if_icmp .ge 7, 3) := by decide +kernel
theorem dX0_goesAheadOf_33 : decode cX0_goesAheadOf 33 = .ok (.iconst 1, 1) := by decide +kernel
theorem dX0_goesAheadOf_34 : decode cX0_goesAheadOf 34 = .ok (.goto 4, 3) := by decide +kernel
theorem dX0_goesAheadOf_37 : decode cX0_goesAheadOf 37 = .ok (.iconst 0, 1) := by decide +kernel
theorem dX0_goesAheadOf_38 : decode cX0_goesAheadOf 38 = .ok (.ireturn, 1) := by decide +kernel
set_option maxRecDepth 20000 in
theorem ggX0_clearCode_X0_isPermanent : GoodIn wsX0_clearCode wsX0_isPermanent := goodIn_r _ [10, 11, 17, 18, 19, 20, 21, 22, 23, 24, 25, 26, 27, 28, 29, 30, 31, 32, 33, 34] (by decide +kernel) (by decide +kernel)
set_option maxRecDepth 20000 in
theorem gX0_clearCode_X0_isPermanent : GoodIn wsX0_clearCode (wsV RX0 95 RX0 yX0_isPermanent wsX0_isPermanent) := goodIn_app (goodIn_of _ (by decide +kernel)) ggX0_clearCode_X0_isPermanent
set_option maxRecDepth 20000 in
theorem ggX0_clearCode_X0_thaw : GoodIn wsX0_clearCode wsX0_thaw := goodIn_r _ [15, 16, 17, 18, 19, 20, 21, 22, 23, 24, 25, 26, 27, 28, 29, 30, 31, 32, 33, 34] (by decide +kernel) (by decide +kernel)
set_option maxRecDepth 20000 in
theorem gX0_clearCode_X0_thaw : GoodIn wsX0_clearCode (wsV RX0 86 RX0 yX0_thaw wsX0_thaw) := goodIn_app (goodIn_of _ (by decide +kernel)) ggX0_clearCode_X0_thaw
theorem dX0_clearCode_0 : decode cX0_clearCode 0 = .ok (.aload_n 0, 1) := by decide +kernel
theorem dX0_clearCode_1 : decode cX0_clearCode 1 = .ok (.iconst 0, 1) := by decide +kernel
theorem dX0_clearCode_2 : decode cX0_clearCode 2 = .ok (.putfield 15, 3) := by decide +kernel
theorem dX0_clearCode_5 : decode cX0_clearCode 5 = .ok (.aload_n 0, 1) := by decide +kernel
theorem dX0_clearCode_6 : decode cX0_clearCode 6 = .ok (.iconst 0, 1) := by decide +kernel
theorem dX0_clearCode_7 : decode cX0_clearCode 7 = .ok (.putfield 18, 3) := by decide +kernel
theorem dX0_clearCode_10 : decode cX0_clearCode 10 = .ok (.aload_n 0, 1) := by decide +kernel
theorem dX0_clearCode_11 : decode cX0_clearCode 11 = .ok (.iconst 0, 1) := by decide +kernel
theorem dX0_clearCode_12 : decode cX0_clearCode 12 = .ok (.putfield 21, 3) := by decide +kernel
theorem dX0_clearCode_15 : decode cX0_clearCode 15 = .ok (.aload_n 0, 1) := by decide +kernel
theorem dX0_clearCode_16 : decode cX0_clearCode 16 = .ok (.iconst 0, 1) := by decide +kernel
theorem dX0_clearCode_17 : decode cX0_clearCode 17 = .ok (.putfield 27, 3) := by decide +kernel
theorem dX0_clearCode_20 : decode cX0_clearCode 20 = .ok (.aload_n 0, 1) := by decide +kernel
theorem dX0_clearCode_21 : decode cX0_clearCode 21 = .ok (.invokevirtual 95, 3) := by decide +kernel
theorem dX0_clearCode_24 : decode cX0_clearCode 24 = .ok (.ifCond .eq 5, 3) := by decide +kernel
theorem dX0_clearCode_27 : decode cX0_clearCode 27 = .ok (.iconst 0, 1) := by decide +kernel
theorem dX0_clearCode_28 : decode cX0_clearCode 28 = .ok (.ireturn, 1) := by decide +kernel
theorem dX0_clearCode_29 : decode cX0_clearCode 29 = .ok (.aload_n 0, 1) := by decide +kernel
theorem dX0_clearCode_30 : decode cX0_clearCode 30 = .ok (.getfield 11, 3) := by decide +kernel
theorem dX0_clearCode_33 : decode cX0_clearCode 33 = .ok (.ifCond .eq 7, 3) := by decide +kernel
theorem dX0_clearCode_36 : decode cX0_clearCode 36 = .ok (.iconst 1, 1) := by decide +kernel
theorem dX0_clearCode_37 : decode cX0_clearCode 37 = .ok (.goto 4, 3) := by decide +kernel
theorem dX0_clearCode_40 : decode cX0_clearCode 40 = .ok (.iconst 0, 1) := by decide +kernel
theorem dX0_clearCode_41 : decode cX0_clearCode 41 = .ok (.istore_n 1, 1) := by decide +kernel
theorem dX0_clearCode_42 : decode cX0_clearCode 42 = .ok (.aload_n 0, 1) := by decide +kernel
theorem dX0_clearCode_43 : decode cX0_clearCode 43 = .ok (.iconst 0, 1) := by decide +kernel
theorem dX0_clearCode_44 : decode cX0_clearCode 44 = .ok (.putfield 11, 3) := by decide +kernel
theorem dX0_clearCode_47 : decode cX0_clearCode 47 = .ok (.aload_n 0, 1) := by decide +kernel
theorem dX0_clearCode_48 : decode cX0_clearCode 48 = .ok (.invokevirtual 86, 3) := by decide +kernel
theorem dX0_clearCode_51 : decode cX0_clearCode 51 = .ok (.iload_n 1, 1) := by decide +kernel
theorem dX0_clearCode_52 : decode cX0_clearCode 52 = .ok (.ireturn, 1) := by decide +kernel
theorem dX1_init_0 : decode cX1_init 0 = .ok (.aload_n 0, 1) := by decide +kernel
theorem dX1_init_1 : decode cX1_init 1 = .ok (.invokespecial 3, 3) := by decide +kernel
theorem dX1_init_4 : decode cX1_init 4 = .ok (.aload_n 0, 1) := by decide +kernel
theorem dX1_init_5 : decode cX1_init 5 = .ok (.bipush 10, 2) := by decide +kernel
theorem dX1_init_7 : decode cX1_init 7 = .ok (.newarray .int, 2) := by decide +kernel
theorem dX1_init_9 : decode cX1_init 9 = .ok (.putfield 11, 3) := by decide +kernel
theorem dX1_init_12 : decode cX1_init 12 = .ok (.aload_n 0, 1) := by decide +kernel
theorem dX1_init_13 : decode cX1_init 13 = .ok (.bipush 10, 2) := by decide +kernel
theorem dX1_init_15 : decode cX1_init 15 = .ok (.newarray .int, 2) := by decide +kernel
theorem dX1_init_17 : decode cX1_init 17 = .ok (.putfield 15, 3) := by decide +kernel
theorem dX1_init_20 : decode cX1_init 20 = .ok (.aload_n 0, 1) := by decide +kernel
theorem dX1_init_21 : decode cX1_init 21 = .ok (.iconst 0, 1) := by decide +kernel
theorem dX1_init_22 : decode cX1_init 22 = .ok (.putfield 18, 3) := by decide +kernel
theorem dX1_init_25 : decode cX1_init 25 = .ok (.aload_n 0, 1) := by decide +kernel
theorem dX1_init_26 : decode cX1_init 26 = .ok (.sipush 1024, 3) := by decide +kernel
theorem dX1_init_29 : decode cX1_init 29 = .ok (.newarray .int, 2) := by decide +kernel
theorem dX1_init_31 : decode cX1_init 31 = .ok (.putfield 22, 3) := by decide +kernel
theorem dX1_init_34 : decode cX1_init 34 = .ok (.aload_n 0, 1) := by decide +kernel
theorem dX1_init_35 : decode cX1_init 35 = .ok (.bipush 10, 2) := by decide +kernel
theorem dX1_init_37 : decode cX1_init 37 = .ok (.newarray .int, 2) := by decide +kernel
theorem dX1_init_39 : decode cX1_init 39 = .ok (.putfield 25, 3) := by decide +kernel
theorem dX1_init_42 : decode cX1_init 42 = .ok (.aload_n 0, 1) := by decide +kernel
theorem dX1_init_43 : decode cX1_init 43 = .ok (.iconst 0, 1) := by decide +kernel
theorem dX1_init_44 : decode cX1_init 44 = .ok (.putfield 28, 3) := by decide +kernel
theorem dX1_init_47 : decode cX1_init 47 = .ok (.aload_n 0, 1) := by decide +kernel
theorem dX1_init_48 : decode cX1_init 48 = .ok (.bipush 10, 2) := by decide +kernel
theorem dX1_init_50 : decode cX1_init 50 = .ok (.newarray .int, 2) := by decide +kernel
theorem dX1_init_52 : decode cX1_init 52 = .ok (.putfield 31, 3) := by decide +kernel
theorem dX1_init_55 : decode cX1_init 55 = .ok (.aload_n 0, 1) := by decide +kernel
theorem dX1_init_56 : decode cX1_init 56 = .ok (.sipush 1024, 3) := by decide +kernel
theorem dX1_init_59 : decode cX1_init 59 = .ok (.newarray .int, 2) := by decide +kernel
theorem dX1_init_61 : decode cX1_init 61 = .ok (.putfield 34, 3) := by decide +kernel
theorem dX1_init_64 : decode cX1_init 64 = .ok (.aload_n 0, 1) := by decide +kernel
theorem dX1_init_65 : decode cX1_init 65 = .ok (.iconst (-1), 1) := by decide +kernel
theorem dX1_init_66 : decode cX1_init 66 = .ok (.putfield 37, 3) := by decide +kernel
theorem dX1_init_69 : decode cX1_init 69 = .ok (.aload_n 0, 1) := by decide +kernel
theorem dX1_init_70 : decode cX1_init 70 = .ok (.iconst 0, 1) := by decide +kernel
theorem dX1_init_71 : decode cX1_init 71 = .ok (.putfield 40, 3) := by decide +kernel
theorem dX1_init_74 : decode cX1_init 74 = .ok (.aload_n 0, 1) := by decide +kernel
theorem dX1_init_75 : decode cX1_init 75 = .ok (.iconst 0, 1) := by decide +kernel
theorem dX1_init_76 : decode cX1_init 76 = .ok (.putfield 43, 3) := by decide +kernel
theorem dX1_init_79 : decode cX1_init 79 = .ok (.aload_n 0, 1) := by decide +kernel
theorem dX1_init_80 : decode cX1_init 80 = .ok (.iconst (-1), 1) := by decide +kernel
theorem dX1_init_81 : decode cX1_init 81 = .ok (.putfield 46, 3) := by decide +kernel
theorem dX1_init_84 : decode cX1_init 84 = .ok (.aload_n 0, 1) := by decide +kernel
theorem dX1_init_85 : decode cX1_init 85 = .ok (.iconst 0, 1) := by decide +kernel
theorem dX1_init_86 : decode cX1_init 86 = .ok (.putfield 49, 3) := by decide +kernel
theorem dX1_init_89 : decode cX1_init 89 = .ok (.return_, 1) := by decide +kernel
theorem dX1_addCause_0 : decode cX1_addCause 0 = .ok (.aload_n 0, 1) := by decide +kernel
theorem dX1_addCause_1 : decode cX1_addCause 1 = .ok (.getfield 18, 3) := by decide +kernel
theorem dX1_addCause_4 : decode cX1_addCause 4 = .ok (.bipush 10, 2) := by decide +kernel
theorem dX1_addCause_6 : decode cX1_addCause 6 = .ok (.if_icmp .lt 6, 3) := by decide +kernel
theorem dX1_addCause_9 : decode cX1_addCause 9 = .ok (.bipush (-4), 2) := by decide +kernel
theorem dX1_addCause_11 : decode cX1_addCause 11 = .ok (.ireturn, 1) := by decide +kernel
theorem dX1_addCause_12 : decode cX1_addCause 12 = .ok (.aload_n 0, 1) := by decide +kernel
theorem dX1_addCause_13 : decode cX1_addCause 13 = .ok (.getfield 11, 3) := by decide +kernel
theorem dX1_addCause_16 : decode cX1_addCause 16 = .ok (.aload_n 0, 1) := by decide +kernel
theorem dX1_addCause_17 : decode cX1_addCause 17 = .ok (.getfield 18, 3) := by decide +kernel
theorem dX1_addCause_20 : decode cX1_addCause 20 = .ok (.iload_n 1, 1) := by decide +kernel
theorem dX1_addCause_21 : decode cX1_addCause 21 = .ok (.iastore, 1) := by decide +kernel
theorem dX1_addCause_22 : decode cX1_addCause 22 = .ok (.aload_n 0, 1) := by decide +kernel
theorem dX1_addCause_23 : decode cX1_addCause 23 = .ok (.getfield 15, 3) := by decide +kernel
theorem dX1_addCause_26 : decode cX1_addCause 26 = .ok (.aload_n 0, 1) := by decide +kernel
theorem dX1_addCause_27 : decode cX1_addCause 27 = .ok (.getfield 18, 3) := by decide +kernel
theorem dX1_addCause_30 : decode cX1_addCause 30 = .ok (.iload_n 2, 1) := by decide +kernel
theorem dX1_addCause_31 : decode cX1_addCause 31 = .ok (.iastore, 1) := by decide +kernel
theorem dX1_addCause_32 : decode cX1_addCause 32 = .ok (.iconst 1, 1) := by decide +kernel
theorem dX1_addCause_33 : decode cX1_addCause 33 = .ok (.aload_n 0, 1) := by decide +kernel
theorem dX1_addCause_34 : decode cX1_addCause 34 = .ok (.getfield 18, 3) := by decide +kernel
theorem dX1_addCause_37 : decode cX1_addCause 37 = .ok (.ishl, 1) := by decide +kernel
theorem dX1_addCause_38 : decode cX1_addCause 38 = .ok (.istore_n 3, 1) := by decide +kernel
theorem dX1_addCause_39 : decode cX1_addCause 39 = .ok (.iconst 0, 1) := by decide +kernel
theorem dX1_addCause_40 : decode cX1_addCause 40 = .ok (.istore 4, 2) := by decide +kernel
theorem dX1_addCause_42 : decode cX1_addCause 42 = .ok (.iload 4, 2) := by decide +kernel
theorem dX1_addCause_44 : decode cX1_addCause 44 = .ok (.iload_n 3, 1) := by decide +kernel
theorem dX1_addCause_45 : decode cX1_addCause 45 = .ok (.if_icmp .ge 27, 3) := by decide +kernel
theorem dX1_addCause_48 : decode cX1_addCause 48 = .ok (.aload_n 0, 1) := by decide +kernel
theorem dX1_addCause_49 : decode cX1_addCause 49 = .ok (.getfield 22, 3) := by decide +kernel
theorem dX1_addCause_52 : decode cX1_addCause 52 = .ok (.iload 4, 2) := by decide +kernel
theorem dX1_addCause_54 : decode cX1_addCause 54 = .ok (.iload_n 3, 1) := by decide +kernel
theorem dX1_addCause_55 : decode cX1_addCause 55 = .ok (.iadd, 1) := by decide +kernel
theorem dX1_addCause_56 : decode cX1_addCause 56 = .ok (.aload_n 0, 1) := by decide +kernel
theorem dX1_addCause_57 : decode cX1_addCause 57 = .ok (.getfield 22, 3) := by decide +kernel
theorem dX1_addCause_60 : decode cX1_addCause 60 = .ok (.iload 4, 2) := by decide +kernel
theorem dX1_addCause_62 : decode cX1_addCause 62 = .ok (.iaload, 1) := by decide +kernel
theorem dX1_addCause_63 : decode cX1_addCause 63 = .ok (.iload_n 1, 1) := by decide +kernel
theorem dX1_addCause_64 : decode cX1_addCause 64 = .ok (.ior, 1) := by decide +kernel
theorem dX1_addCause_65 : decode cX1_addCause 65 = .ok (.iastore, 1) := by decide +kernel
theorem dX1_addCause_66 : decode cX1_addCause 66 = .ok (.iinc 4 1, 3) := by decide +kernel
theorem dX1_addCause_69 : decode cX1_addCause 69 = .ok (.goto (-27), 3) := by decide +kernel
theorem dX1_addCause_72 : decode cX1_addCause 72 = .ok (.aload_n 0, 1) := by decide +kernel
theorem dX1_addCause_73 : decode cX1_addCause 73 = .ok (.dup, 1) := by decide +kernel
theorem dX1_addCause_74 : decode cX1_addCause 74 = .ok (.getfield 18, 3) := by decide +kernel
theorem dX1_addCause_77 : decode cX1_addCause 77 = .ok (.iconst 1, 1) := by decide +kernel
theorem dX1_addCause_78 : decode cX1_addCause 78 = .ok (.iadd, 1) := by decide +kernel
theorem dX1_addCause_79 : decode cX1_addCause 79 = .ok (.putfield 18, 3) := by decide +kernel
theorem dX1_addCause_82 : decode cX1_addCause 82 = .ok (.aload_n 0, 1) := by decide +kernel
theorem dX1_addCause_83 : decode cX1_addCause 83 = .ok (.getfield 18, 3) := by decide +kernel
theorem dX1_addCause_86 : decode cX1_addCause 86 = .ok (.iconst 1, 1) := by decide +kernel
theorem dX1_addCause_87 : decode cX1_addCause 87 = .ok (.isub, 1) := by decide +kernel
theorem dX1_addCause_88 : decode cX1_addCause 88 = .ok (.ireturn, 1) := by decide +kernel
theorem dX1_isExplainedBy_0 : decode cX1_isExplainedBy 0 = .ok (.aload_n 0, 1) := by decide +kernel
theorem dX1_isExplainedBy_1 : decode cX1_isExplainedBy 1 = .ok (.getfield 22, 3) := by decide +kernel
theorem dX1_isExplainedBy_4 : decode cX1_isExplainedBy 4 = .ok (.iload_n 1, 1) := by decide +kernel
theorem dX1_isExplainedBy_5 : decode cX1_isExplainedBy 5 = .ok (.iaload, 1) := by decide +kernel
theorem dX1_isExplainedBy_6 : decode cX1_isExplainedBy 6 = .ok (.iload_n 2, 1) := by decide +kernel
theorem dX1_isExplainedBy_7 : decode cX1_isExplainedBy 7 = .ok (.iand, 1) := by decide +kernel
theorem dX1_isExplainedBy_8 : decode cX1_isExplainedBy 8 = .ok (.iload_n 3, 1) := by decide +kernel
theorem dX1_isExplainedBy_9 : decode cX1_isExplainedBy 9 = .ok (.iload_n 2, 1) := by decide +kernel
theorem dX1_isExplainedBy_10 : decode cX1_isExplainedBy 10 = .ok (.iand, 1) := by decide +kernel
theorem dX1_isExplainedBy_11 : decode cX1_isExplainedBy 11 = .ok (.if_icmp .ne 7, 3) := by decide +kernel
theorem dX1_isExplainedBy_14 : decode cX1_isExplainedBy 14 = .ok (.iconst 1, 1) := by decide +kernel
theorem dX1_isExplainedBy_15 : decode cX1_isExplainedBy 15 = .ok (.goto 4, 3) := by decide +kernel
theorem dX1_isExplainedBy_18 : decode cX1_isExplainedBy 18 = .ok (.iconst 0, 1) := by decide +kernel
theorem dX1_isExplainedBy_19 : decode cX1_isExplainedBy 19 = .ok (.ireturn, 1) := by decide +kernel
set_option maxRecDepth 20000 in
theorem ggX1_look_X1_findLeast : GoodIn wsX1_look wsX1_findLeast := goodIn_r _ [10, 11, 3, 1, 2, 12, 13, 14, 15, 16, 17, 18, 19, 20, 21, 22, 9, 23, 24, 25, 26, 27, 28, 29, 30, 31, 32, 33, 34, 35, 36, 37] (by decide +kernel) (by decide +kernel)
set_option maxRecDepth 20000 in
theorem gX1_look_X1_findLeast : GoodIn wsX1_look (wsV RX1 53 RX1 yX1_findLeast wsX1_findLeast) := goodIn_app (goodIn_of _ (by decide +kernel)) ggX1_look_X1_findLeast
theorem dX1_look_0 : decode cX1_look 0 = .ok (.iload_n 1, 1) := by decide +kernel
theorem dX1_look_1 : decode cX1_look 1 = .ok (.aload_n 0, 1) := by decide +kernel
theorem dX1_look_2 : decode cX1_look 2 = .ok (.getfield 40, 3) := by decide +kernel
theorem dX1_look_5 : decode cX1_look 5 = .ok (.if_icmp .ne 23, 3) := by decide +kernel
theorem dX1_look_8 : decode cX1_look 8 = .ok (.iload_n 2, 1) := by decide +kernel
theorem dX1_look_9 : decode cX1_look 9 = .ok (.aload_n 0, 1) := by decide +kernel
theorem dX1_look_10 : decode cX1_look 10 = .ok (.getfield 43, 3) := by decide +kernel
theorem dX1_look_13 : decode cX1_look 13 = .ok (.if_icmp .ne 15, 3) := by decide +kernel
theorem dX1_look_16 : decode cX1_look 16 = .ok (.aload_n 0, 1) := by decide +kernel
theorem dX1_look_17 : decode cX1_look 17 = .ok (.getfield 18, 3) := by decide +kernel
theorem dX1_look_20 : decode cX1_look 20 = .ok (.aload_n 0, 1) := by decide +kernel
theorem dX1_look_21 : decode cX1_look 21 = .ok (.getfield 46, 3) := by decide +kernel
theorem dX1_look_24 : decode cX1_look 24 = .ok (.if_icmp .ne 4, 3) := by decide +kernel
theorem dX1_look_27 : decode cX1_look 27 = .ok (.return_, 1) := by decide +kernel
theorem dX1_look_28 : decode cX1_look 28 = .ok (.aload_n 0, 1) := by decide +kernel
theorem dX1_look_29 : decode cX1_look 29 = .ok (.iload_n 1, 1) := by decide +kernel
theorem dX1_look_30 : decode cX1_look 30 = .ok (.putfield 40, 3) := by decide +kernel
theorem dX1_look_33 : decode cX1_look 33 = .ok (.aload_n 0, 1) := by decide +kernel
theorem dX1_look_34 : decode cX1_look 34 = .ok (.iload_n 2, 1) := by decide +kernel
theorem dX1_look_35 : decode cX1_look 35 = .ok (.putfield 43, 3) := by decide +kernel
theorem dX1_look_38 : decode cX1_look 38 = .ok (.aload_n 0, 1) := by decide +kernel
theorem dX1_look_39 : decode cX1_look 39 = .ok (.aload_n 0, 1) := by decide +kernel
theorem dX1_look_40 : decode cX1_look 40 = .ok (.getfield 18, 3) := by decide +kernel
theorem dX1_look_43 : decode cX1_look 43 = .ok (.putfield 46, 3) := by decide +kernel
theorem dX1_look_46 : decode cX1_look 46 = .ok (.aload_n 0, 1) := by decide +kernel
theorem dX1_look_47 : decode cX1_look 47 = .ok (.iconst 0, 1) := by decide +kernel
theorem dX1_look_48 : decode cX1_look 48 = .ok (.putfield 49, 3) := by decide +kernel
theorem dX1_look_51 : decode cX1_look 51 = .ok (.aload_n 0, 1) := by decide +kernel
theorem dX1_look_52 : decode cX1_look 52 = .ok (.invokevirtual 53, 3) := by decide +kernel
theorem dX1_look_55 : decode cX1_look 55 = .ok (.return_, 1) := by decide +kernel
set_option maxRecDepth 20000 in
theorem ggX1_findLeast_J6_bitCount_0f7a4 : GoodIn wsX1_findLeast wsJ6_bitCount_0f7a4 := goodIn_r _ [9, 10, 11, 12] (by decide +kernel) (by decide +kernel)
set_option maxRecDepth 20000 in
theorem gX1_findLeast_J6_bitCount_0f7a4 : GoodIn wsX1_findLeast (va_wsS RX1 56 yJ6_bitCount_0f7a4 wsJ6_bitCount_0f7a4) := goodIn_app (goodIn_of _ (by decide +kernel)) ggX1_findLeast_J6_bitCount_0f7a4
set_option maxRecDepth 20000 in
theorem ggX1_findLeast_X1_isExplainedBy : GoodIn wsX1_findLeast wsX1_isExplainedBy := goodIn_r _ [17, 18, 19, 20, 21, 22, 23, 24, 25, 26, 27, 28, 29, 30, 31] (by decide +kernel) (by decide +kernel)
set_option maxRecDepth 20000 in
theorem gX1_findLeast_X1_isExplainedBy : GoodIn wsX1_findLeast (wsV RX1 62 RX1 yX1_isExplainedBy wsX1_isExplainedBy) := goodIn_app (goodIn_of _ (by decide +kernel)) ggX1_findLeast_X1_isExplainedBy
theorem dX1_findLeast_0 : decode cX1_findLeast 0 = .ok (.aload_n 0, 1) := by decide +kernel
theorem dX1_findLeast_1 : decode cX1_findLeast 1 = .ok (.iconst 0, 1) := by decide +kernel
theorem dX1_findLeast_2 : decode cX1_findLeast 2 = .ok (.putfield 28, 3) := by decide +kernel
theorem dX1_findLeast_5 : decode cX1_findLeast 5 = .ok (.bipush 10, 2) := by decide +kernel
theorem dX1_findLeast_7 : decode cX1_findLeast 7 = .ok (.istore_n 1, 1) := by decide +kernel
theorem dX1_findLeast_8 : decode cX1_findLeast 8 = .ok (.iconst 0, 1) := by decide +kernel
theorem dX1_findLeast_9 : decode cX1_findLeast 9 = .ok (.istore_n 2, 1) := by decide +kernel
theorem dX1_findLeast_10 : decode cX1_findLeast 10 = .ok (.iload_n 2, 1) := by decide +kernel
theorem dX1_findLeast_11 : decode cX1_findLeast 11 = .ok (.iconst 1, 1) := by decide +kernel
theorem dX1_findLeast_12 : decode cX1_findLeast 12 = .ok (.aload_n 0, 1) := by decide +kernel
theorem dX1_findLeast_13 : decode cX1_findLeast 13 = .ok (.getfield 18, 3) := by decide +kernel
theorem dX1_findLeast_16 : decode cX1_findLeast 16 = .ok (.ishl, 1) := by decide +kernel
theorem dX1_findLeast_17 : decode cX1_findLeast 17 = .ok (.if_icmp .ge 79, 3) := by decide +kernel
theorem dX1_findLeast_20 : decode cX1_findLeast 20 = .ok (.iload_n 2, 1) := by decide +kernel
theorem dX1_findLeast_21 : decode cX1_findLeast 21 = .ok (.invokestatic 56, 3) := by decide +kernel
theorem dX1_findLeast_24 : decode cX1_findLeast 24 = .ok (.istore_n 3, 1) := by decide +kernel
theorem dX1_findLeast_25 : decode cX1_findLeast 25 = .ok (.iload_n 3, 1) := by decide +kernel
theorem dX1_findLeast_26 : decode cX1_findLeast 26 = .ok (.iload_n 1, 1) := by decide +kernel
theorem dX1_findLeast_27 : decode cX1_findLeast 27 = .ok (.if_icmp .gt 63, 3) := by decide +kernel
theorem dX1_findLeast_30 : decode cX1_findLeast 30 = .ok (.aload_n 0, 1) := by decide +kernel
theorem dX1_findLeast_31 : decode cX1_findLeast 31 = .ok (.iload_n 2, 1) := by decide +kernel
theorem dX1_findLeast_32 : decode cX1_findLeast 32 = .ok (.aload_n 0, 1) := by decide +kernel
theorem dX1_findLeast_33 : decode cX1_findLeast 33 = .ok (.getfield 40, 3) := by decide +kernel
theorem dX1_findLeast_36 : decode cX1_findLeast 36 = .ok (.aload_n 0, 1) := by decide +kernel
theorem dX1_findLeast_37 : decode cX1_findLeast 37 = .ok (.getfield 43, 3) := by decide +kernel
theorem dX1_findLeast_40 : decode cX1_findLeast 40 = .ok (.invokevirtual 62, 3) := by decide +kernel
theorem dX1_findLeast_43 : decode cX1_findLeast 43 = .ok (.ifCond .ne 6, 3) := by decide +kernel
theorem dX1_findLeast_46 : decode cX1_findLeast 46 = .ok (.goto 44, 3) := by decide +kernel
theorem dX1_findLeast_49 : decode cX1_findLeast 49 = .ok (.iload_n 3, 1) := by decide +kernel
theorem dX1_findLeast_50 : decode cX1_findLeast 50 = .ok (.iload_n 1, 1) := by decide +kernel
theorem dX1_findLeast_51 : decode cX1_findLeast 51 = .ok (.if_icmp .ge 8, 3) := by decide +kernel
theorem dX1_findLeast_54 : decode cX1_findLeast 54 = .ok (.aload_n 0, 1) := by decide +kernel
theorem dX1_findLeast_55 : decode cX1_findLeast 55 = .ok (.iconst 0, 1) := by decide +kernel
theorem dX1_findLeast_56 : decode cX1_findLeast 56 = .ok (.putfield 28, 3) := by decide +kernel
theorem dX1_findLeast_59 : decode cX1_findLeast 59 = .ok (.iload_n 3, 1) := by decide +kernel
theorem dX1_findLeast_60 : decode cX1_findLeast 60 = .ok (.istore_n 1, 1) := by decide +kernel
theorem dX1_findLeast_61 : decode cX1_findLeast 61 = .ok (.aload_n 0, 1) := by decide +kernel
theorem dX1_findLeast_62 : decode cX1_findLeast 62 = .ok (.getfield 28, 3) := by decide +kernel
theorem dX1_findLeast_65 : decode cX1_findLeast 65 = .ok (.bipush 10, 2) := by decide +kernel
theorem dX1_findLeast_67 : decode cX1_findLeast 67 = .ok (.if_icmp .ge 23, 3) := by decide +kernel
theorem dX1_findLeast_70 : decode cX1_findLeast 70 = .ok (.aload_n 0, 1) := by decide +kernel
theorem dX1_findLeast_71 : decode cX1_findLeast 71 = .ok (.getfield 25, 3) := by decide +kernel
theorem dX1_findLeast_74 : decode cX1_findLeast 74 = .ok (.aload_n 0, 1) := by decide +kernel
theorem dX1_findLeast_75 : decode cX1_findLeast 75 = .ok (.getfield 28, 3) := by decide +kernel
theorem dX1_findLeast_78 : decode cX1_findLeast 78 = .ok (.iload_n 2, 1) := by decide +kernel
theorem dX1_findLeast_79 : decode cX1_findLeast 79 = .ok (.iastore, 1) := by decide +kernel
theorem dX1_findLeast_80 : decode cX1_findLeast 80 = .ok (.aload_n 0, 1) := by decide +kernel
theorem dX1_findLeast_81 : decode cX1_findLeast 81 = .ok (.dup, 1) := by decide +kernel
theorem dX1_findLeast_82 : decode cX1_findLeast 82 = .ok (.getfield 28, 3) := by decide +kernel
theorem dX1_findLeast_85 : decode cX1_findLeast 85 = .ok (.iconst 1, 1) := by decide +kernel
theorem dX1_findLeast_86 : decode cX1_findLeast 86 = .ok (.iadd, 1) := by decide +kernel
theorem dX1_findLeast_87 : decode cX1_findLeast 87 = .ok (.putfield 28, 3) := by decide +kernel
theorem dX1_findLeast_90 : decode cX1_findLeast 90 = .ok (.iinc 2 1, 3) := by decide +kernel
theorem dX1_findLeast_93 : decode cX1_findLeast 93 = .ok (.goto (-83), 3) := by decide +kernel
theorem dX1_findLeast_96 : decode cX1_findLeast 96 = .ok (.return_, 1) := by decide +kernel
set_option maxRecDepth 20000 in
theorem ggX1_planSum_X1_makePlan : GoodIn wsX1_planSum wsX1_makePlan := goodIn_r _ [7, 8, 9, 10, 11, 12, 13, 6, 14, 1, 15, 16, 17, 18, 19, 20, 21, 22, 23, 24, 25, 2, 26, 27, 28, 29, 30, 31, 32, 33, 34, 35, 36, 37, 38, 39, 40, 41, 42, 43, 44, 45] (by decide +kernel) (by decide +kernel)
set_option maxRecDepth 20000 in
theorem gX1_planSum_X1_makePlan : GoodIn wsX1_planSum (wsV RX1 66 RX1 yX1_makePlan wsX1_makePlan) := goodIn_app (goodIn_of _ (by decide +kernel)) ggX1_planSum_X1_makePlan
set_option maxRecDepth 20000 in
theorem ggX1_planSum_X1_allLeast : GoodIn wsX1_planSum wsX1_allLeast := goodIn_r _ [19, 1, 33, 34, 35, 36, 37, 38, 39, 40, 41, 42, 43, 44, 45] (by decide +kernel) (by decide +kernel)
set_option maxRecDepth 20000 in
theorem gX1_planSum_X1_allLeast : GoodIn wsX1_planSum (wsV RX1 69 RX1 yX1_allLeast wsX1_allLeast) := goodIn_app (goodIn_of _ (by decide +kernel)) ggX1_planSum_X1_allLeast
theorem dX1_planSum_0 : decode cX1_planSum 0 = .ok (.aload_n 0, 1) := by decide +kernel
theorem dX1_planSum_1 : decode cX1_planSum 1 = .ok (.getfield 28, 3) := by decide +kernel
theorem dX1_planSum_4 : decode cX1_planSum 4 = .ok (.ifCond .ne 5, 3) := by decide +kernel
theorem dX1_planSum_7 : decode cX1_planSum 7 = .ok (.iconst (-1), 1) := by decide +kernel
theorem dX1_planSum_8 : decode cX1_planSum 8 = .ok (.ireturn, 1) := by decide +kernel
theorem dX1_planSum_9 : decode cX1_planSum 9 = .ok (.aload_n 0, 1) := by decide +kernel
theorem dX1_planSum_10 : decode cX1_planSum 10 = .ok (.invokevirtual 66, 3) := by decide +kernel
theorem dX1_planSum_13 : decode cX1_planSum 13 = .ok (.aload_n 0, 1) := by decide +kernel
theorem dX1_planSum_14 : decode cX1_planSum 14 = .ok (.getfield 34, 3) := by decide +kernel
theorem dX1_planSum_17 : decode cX1_planSum 17 = .ok (.aload_n 0, 1) := by decide +kernel
theorem dX1_planSum_18 : decode cX1_planSum 18 = .ok (.invokevirtual 69, 3) := by decide +kernel
theorem dX1_planSum_21 : decode cX1_planSum 21 = .ok (.iaload, 1) := by decide +kernel
theorem dX1_planSum_22 : decode cX1_planSum 22 = .ok (.ireturn, 1) := by decide +kernel
set_option maxRecDepth 20000 in
theorem ggX1_planTest_X1_makePlan : GoodIn wsX1_planTest wsX1_makePlan := goodIn_r _ [7, 8, 9, 10, 11, 12, 13, 6, 14, 1, 15, 16, 17, 18, 19, 20, 21, 22, 23, 2, 24, 25, 26, 27, 28, 29, 30, 31, 32, 33, 34, 35, 36, 37, 38, 39, 40, 41, 42, 43, 44, 45] (by decide +kernel) (by decide +kernel)
set_option maxRecDepth 20000 in
theorem gX1_planTest_X1_makePlan : GoodIn wsX1_planTest (wsV RX1 66 RX1 yX1_makePlan wsX1_makePlan) := goodIn_app (goodIn_of _ (by decide +kernel)) ggX1_planTest_X1_makePlan
theorem dX1_planTest_0 : decode cX1_planTest 0 = .ok (.aload_n 0, 1) := by decide +kernel
theorem dX1_planTest_1 : decode cX1_planTest 1 = .ok (.getfield 28, 3) := by decide +kernel
theorem dX1_planTest_4 : decode cX1_planTest 4 = .ok (.ifCond .ne 5, 3) := by decide +kernel
theorem dX1_planTest_7 : decode cX1_planTest 7 = .ok (.iconst (-1), 1) := by decide +kernel
theorem dX1_planTest_8 : decode cX1_planTest 8 = .ok (.ireturn, 1) := by decide +kernel
theorem dX1_planTest_9 : decode cX1_planTest 9 = .ok (.aload_n 0, 1) := by decide +kernel
theorem dX1_planTest_10 : decode cX1_planTest 10 = .ok (.invokevirtual 66, 3) := by decide +kernel
theorem dX1_planTest_13 : decode cX1_planTest 13 = .ok (.aload_n 0, 1) := by decide +kernel
theorem dX1_planTest_14 : decode cX1_planTest 14 = .ok (.getfield 37, 3) := by decide +kernel
theorem dX1_planTest_17 : decode cX1_planTest 17 = .ok (.ireturn, 1) := by decide +kernel
theorem dX1_allLeast_0 : decode cX1_allLeast 0 = .ok (.iconst 1, 1) := by decide +kernel
theorem dX1_allLeast_1 : decode cX1_allLeast 1 = .ok (.aload_n 0, 1) := by decide +kernel
theorem dX1_allLeast_2 : decode cX1_allLeast 2 = .ok (.getfield 28, 3) := by decide +kernel
theorem dX1_allLeast_5 : decode cX1_allLeast 5 = .ok (.ishl, 1) := by decide +kernel
theorem dX1_allLeast_6 : decode cX1_allLeast 6 = .ok (.iconst 1, 1) := by decide +kernel
theorem dX1_allLeast_7 : decode cX1_allLeast 7 = .ok (.isub, 1) := by decide +kernel
theorem dX1_allLeast_8 : decode cX1_allLeast 8 = .ok (.ireturn, 1) := by decide +kernel
set_option maxRecDepth 20000 in
theorem ggX1_makePlan_X1_holdersOf : GoodIn wsX1_makePlan wsX1_holdersOf := goodIn_r _ [8, 9, 10, 29, 30, 31, 32, 33, 34, 35, 36, 37, 38, 39, 40, 41] (by decide +kernel) (by decide +kernel)
set_option maxRecDepth 20000 in
theorem gX1_makePlan_X1_holdersOf : GoodIn wsX1_makePlan (wsV RX1 73 RX1 yX1_holdersOf wsX1_holdersOf) := goodIn_app (goodIn_of _ (by decide +kernel)) ggX1_makePlan_X1_holdersOf
set_option maxRecDepth 20000 in
theorem ggX1_makePlan_X1_allLeast : GoodIn wsX1_makePlan wsX1_allLeast := goodIn_r _ [14, 9, 29, 30, 31, 32, 33, 34, 35, 36, 37, 38, 39, 40, 41] (by decide +kernel) (by decide +kernel)
set_option maxRecDepth 20000 in
theorem gX1_makePlan_X1_allLeast : GoodIn wsX1_makePlan (wsV RX1 69 RX1 yX1_allLeast wsX1_allLeast) := goodIn_app (goodIn_of _ (by decide +kernel)) ggX1_makePlan_X1_allLeast
set_option maxRecDepth 20000 in
theorem ggX1_makePlan_X1_planFor : GoodIn wsX1_makePlan wsX1_planFor := goodIn_r _ [18, 19, 2, 3, 20, 21, 22, 23, 24, 25, 26, 27, 28, 29, 30, 31, 32, 33, 34, 35, 36, 37, 38, 39, 40, 41] (by decide +kernel) (by decide +kernel)
set_option maxRecDepth 20000 in
theorem gX1_makePlan_X1_planFor : GoodIn wsX1_makePlan (wsV RX1 76 RX1 yX1_planFor wsX1_planFor) := goodIn_app (goodIn_of _ (by decide +kernel)) ggX1_makePlan_X1_planFor
theorem dX1_makePlan_0 : decode cX1_makePlan 0 = .ok (.aload_n 0, 1) := by decide +kernel
theorem dX1_makePlan_1 : decode cX1_makePlan 1 = .ok (.getfield 49, 3) := by decide +kernel
theorem dX1_makePlan_4 : decode cX1_makePlan 4 = .ok (.ifCond .eq 4, 3) := by decide +kernel
theorem dX1_makePlan_7 : decode cX1_makePlan 7 = .ok (.return_, 1) := by decide +kernel
theorem dX1_makePlan_8 : decode cX1_makePlan 8 = .ok (.aload_n 0, 1) := by decide +kernel
theorem dX1_makePlan_9 : decode cX1_makePlan 9 = .ok (.iconst 1, 1) := by decide +kernel
theorem dX1_makePlan_10 : decode cX1_makePlan 10 = .ok (.putfield 49, 3) := by decide +kernel
theorem dX1_makePlan_13 : decode cX1_makePlan 13 = .ok (.iconst 0, 1) := by decide +kernel
theorem dX1_makePlan_14 : decode cX1_makePlan 14 = .ok (.istore_n 1, 1) := by decide +kernel
theorem dX1_makePlan_15 : decode cX1_makePlan 15 = .ok (.iload_n 1, 1) := by decide +kernel
theorem dX1_makePlan_16 : decode cX1_makePlan 16 = .ok (.aload_n 0, 1) := by decide +kernel
theorem dX1_makePlan_17 : decode cX1_makePlan 17 = .ok (.getfield 18, 3) := by decide +kernel
theorem dX1_makePlan_20 : decode cX1_makePlan 20 = .ok (.if_icmp .ge 20, 3) := by decide +kernel
theorem dX1_makePlan_23 : decode cX1_makePlan 23 = .ok (.aload_n 0, 1) := by decide +kernel
theorem dX1_makePlan_24 : decode cX1_makePlan 24 = .ok (.getfield 31, 3) := by decide +kernel
theorem dX1_makePlan_27 : decode cX1_makePlan 27 = .ok (.iload_n 1, 1) := by decide +kernel
theorem dX1_makePlan_28 : decode cX1_makePlan 28 = .ok (.aload_n 0, 1) := by decide +kernel
theorem dX1_makePlan_29 : decode cX1_makePlan 29 = .ok (.iload_n 1, 1) := by decide +kernel
theorem dX1_makePlan_30 : decode cX1_makePlan 30 = .ok (.invokevirtual 73, 3) := by decide +kernel
theorem dX1_makePlan_33 : decode cX1_makePlan 33 = .ok (.iastore, 1) := by decide +kernel
theorem dX1_makePlan_34 : decode cX1_makePlan 34 = .ok (.iinc 1 1, 3) := by decide +kernel
theorem dX1_makePlan_37 : decode cX1_makePlan 37 = .ok (.goto (-22), 3) := by decide +kernel
theorem dX1_makePlan_40 : decode cX1_makePlan 40 = .ok (.iconst 1, 1) := by decide +kernel
theorem dX1_makePlan_41 : decode cX1_makePlan 41 = .ok (.istore_n 1, 1) := by decide +kernel
theorem dX1_makePlan_42 : decode cX1_makePlan 42 = .ok (.iload_n 1, 1) := by decide +kernel
theorem dX1_makePlan_43 : decode cX1_makePlan 43 = .ok (.aload_n 0, 1) := by decide +kernel
theorem dX1_makePlan_44 : decode cX1_makePlan 44 = .ok (.invokevirtual 69, 3) := by decide +kernel
theorem dX1_makePlan_47 : decode cX1_makePlan 47 = .ok (.if_icmp .gt 14, 3) := by decide +kernel
theorem dX1_makePlan_50 : decode cX1_makePlan 50 = .ok (.aload_n 0, 1) := by decide +kernel
theorem dX1_makePlan_51 : decode cX1_makePlan 51 = .ok (.iload_n 1, 1) := by decide +kernel
theorem dX1_makePlan_52 : decode cX1_makePlan 52 = .ok (.invokevirtual 76, 3) := by decide +kernel
theorem dX1_makePlan_55 : decode cX1_makePlan 55 = .ok (.iinc 1 1, 3) := by decide +kernel
theorem dX1_makePlan_58 : decode cX1_makePlan 58 = .ok (.goto (-16), 3) := by decide +kernel
theorem dX1_makePlan_61 : decode cX1_makePlan 61 = .ok (.return_, 1) := by decide +kernel
theorem dX1_holdersOf_0 : decode cX1_holdersOf 0 = .ok (.iconst 0, 1) := by decide +kernel
theorem dX1_holdersOf_1 : decode cX1_holdersOf 1 = .ok (.istore_n 2, 1) := by decide +kernel
theorem dX1_holdersOf_2 : decode cX1_holdersOf 2 = .ok (.iconst 0, 1) := by decide +kernel
theorem dX1_holdersOf_3 : decode cX1_holdersOf 3 = .ok (.istore_n 3, 1) := by decide +kernel
theorem dX1_holdersOf_4 : decode cX1_holdersOf 4 = .ok (.iload_n 3, 1) := by decide +kernel
theorem dX1_holdersOf_5 : decode cX1_holdersOf 5 = .ok (.aload_n 0, 1) := by decide +kernel
theorem dX1_holdersOf_6 : decode cX1_holdersOf 6 = .ok (.getfield 28, 3) := by decide +kernel
theorem dX1_holdersOf_9 : decode cX1_holdersOf 9 = .ok (.if_icmp .ge 24, 3) := by decide +kernel
theorem dX1_holdersOf_12 : decode cX1_holdersOf 12 = .ok (.iload_n 2, 1) := by decide +kernel
theorem dX1_holdersOf_13 : decode cX1_holdersOf 13 = .ok (.aload_n 0, 1) := by decide +kernel
theorem dX1_holdersOf_14 : decode cX1_holdersOf 14 = .ok (.getfield 25, 3) := by decide +kernel
theorem dX1_holdersOf_17 : decode cX1_holdersOf 17 = .ok (.iload_n 3, 1) := by decide +kernel
theorem dX1_holdersOf_18 : decode cX1_holdersOf 18 = .ok (.iaload, 1) := by decide +kernel
theorem dX1_holdersOf_19 : decode cX1_holdersOf 19 = .ok (.iload_n 1, 1) := by decide +kernel
theorem dX1_holdersOf_20 : decode cX1_holdersOf 20 = .ok (.ishr, 1) := by decide +kernel
theorem dX1_holdersOf_21 : decode cX1_holdersOf 21 = .ok (.iconst 1, 1) := by decide +kernel
theorem dX1_holdersOf_22 : decode cX1_holdersOf 22 = .ok (.iand, 1) := by decide +kernel
theorem dX1_holdersOf_23 : decode cX1_holdersOf 23 = .ok (.iload_n 3, 1) := by decide +kernel
theorem dX1_holdersOf_24 : decode cX1_holdersOf 24 = .ok (.ishl, 1) := by decide +kernel
theorem dX1_holdersOf_25 : decode cX1_holdersOf 25 = .ok (.ior, 1) := by decide +kernel
theorem dX1_holdersOf_26 : decode cX1_holdersOf 26 = .ok (.istore_n 2, 1) := by decide +kernel
theorem dX1_holdersOf_27 : decode cX1_holdersOf 27 = .ok (.iinc 3 1, 3) := by decide +kernel
theorem dX1_holdersOf_30 : decode cX1_holdersOf 30 = .ok (.goto (-26), 3) := by decide +kernel
theorem dX1_holdersOf_33 : decode cX1_holdersOf 33 = .ok (.iload_n 2, 1) := by decide +kernel
theorem dX1_holdersOf_34 : decode cX1_holdersOf 34 = .ok (.ireturn, 1) := by decide +kernel
set_option maxRecDepth 20000 in
theorem ggX1_planFor_J6_bitCount_0f7a4 : GoodIn wsX1_planFor wsJ6_bitCount_0f7a4 := goodIn_r _ [9, 10, 11, 12] (by decide +kernel) (by decide +kernel)
set_option maxRecDepth 20000 in
theorem gX1_planFor_J6_bitCount_0f7a4 : GoodIn wsX1_planFor (va_wsS RX1 56 yJ6_bitCount_0f7a4 wsJ6_bitCount_0f7a4) := goodIn_app (goodIn_of _ (by decide +kernel)) ggX1_planFor_J6_bitCount_0f7a4
theorem dX1_planFor_0 : decode cX1_planFor 0 = .ok (.aload_n 0, 1) := by decide +kernel
theorem dX1_planFor_1 : decode cX1_planFor 1 = .ok (.iconst (-1), 1) := by decide +kernel
theorem dX1_planFor_2 : decode cX1_planFor 2 = .ok (.putfield 37, 3) := by decide +kernel
theorem dX1_planFor_5 : decode cX1_planFor 5 = .ok (.iconst 0, 1) := by decide +kernel
theorem dX1_planFor_6 : decode cX1_planFor 6 = .ok (.istore_n 2, 1) := by decide +kernel
theorem dX1_planFor_7 : decode cX1_planFor 7 = .ok (.iconst 0, 1) := by decide +kernel
theorem dX1_planFor_8 : decode cX1_planFor 8 = .ok (.istore_n 3, 1) := by decide +kernel
theorem dX1_planFor_9 : decode cX1_planFor 9 = .ok (.iload_n 3, 1) := by decide +kernel
theorem dX1_planFor_10 : decode cX1_planFor 10 = .ok (.aload_n 0, 1) := by decide +kernel
theorem dX1_planFor_11 : decode cX1_planFor 11 = .ok (.getfield 18, 3) := by decide +kernel
theorem dX1_planFor_14 : decode cX1_planFor 14 = .ok (.if_icmp .ge 89, 3) := by decide +kernel
theorem dX1_planFor_17 : decode cX1_planFor 17 = .ok (.iload_n 1, 1) := by decide +kernel
theorem dX1_planFor_18 : decode cX1_planFor 18 = .ok (.aload_n 0, 1) := by decide +kernel
theorem dX1_planFor_19 : decode cX1_planFor 19 = .ok (.getfield 31, 3) := by decide +kernel
theorem dX1_planFor_22 : decode cX1_planFor 22 = .ok (.iload_n 3, 1) := by decide +kernel
theorem dX1_planFor_23 : decode cX1_planFor 23 = .ok (.iaload, 1) := by decide +kernel
theorem dX1_planFor_24 : decode cX1_planFor 24 = .ok (.iand, 1) := by decide +kernel
theorem dX1_planFor_25 : decode cX1_planFor 25 = .ok (.istore 4, 2) := by decide +kernel
theorem dX1_planFor_27 : decode cX1_planFor 27 = .ok (.iload 4, 2) := by decide +kernel
theorem dX1_planFor_29 : decode cX1_planFor 29 = .ok (.ifCond .eq 68, 3) := by decide +kernel
theorem dX1_planFor_32 : decode cX1_planFor 32 = .ok (.iload 4, 2) := by decide +kernel
theorem dX1_planFor_34 : decode cX1_planFor 34 = .ok (.iload_n 1, 1) := by decide +kernel
theorem dX1_planFor_35 : decode cX1_planFor 35 = .ok (.if_icmp .ne 6, 3) := by decide +kernel
theorem dX1_planFor_38 : decode cX1_planFor 38 = .ok (.goto 59, 3) := by decide +kernel
theorem dX1_planFor_41 : decode cX1_planFor 41 = .ok (.aload_n 0, 1) := by decide +kernel
theorem dX1_planFor_42 : decode cX1_planFor 42 = .ok (.getfield 15, 3) := by decide +kernel
theorem dX1_planFor_45 : decode cX1_planFor 45 = .ok (.iload_n 3, 1) := by decide +kernel
theorem dX1_planFor_46 : decode cX1_planFor 46 = .ok (.iaload, 1) := by decide +kernel
theorem dX1_planFor_47 : decode cX1_planFor 47 = .ok (.iload_n 1, 1) := by decide +kernel
theorem dX1_planFor_48 : decode cX1_planFor 48 = .ok (.invokestatic 56, 3) := by decide +kernel
theorem dX1_planFor_51 : decode cX1_planFor 51 = .ok (.imul, 1) := by decide +kernel
theorem dX1_planFor_52 : decode cX1_planFor 52 = .ok (.aload_n 0, 1) := by decide +kernel
theorem dX1_planFor_53 : decode cX1_planFor 53 = .ok (.getfield 34, 3) := by decide +kernel
theorem dX1_planFor_56 : decode cX1_planFor 56 = .ok (.iload 4, 2) := by decide +kernel
theorem dX1_planFor_58 : decode cX1_planFor 58 = .ok (.iaload, 1) := by decide +kernel
theorem dX1_planFor_59 : decode cX1_planFor 59 = .ok (.iadd, 1) := by decide +kernel
theorem dX1_planFor_60 : decode cX1_planFor 60 = .ok (.aload_n 0, 1) := by decide +kernel
theorem dX1_planFor_61 : decode cX1_planFor 61 = .ok (.getfield 34, 3) := by decide +kernel
theorem dX1_planFor_64 : decode cX1_planFor 64 = .ok (.iload_n 1, 1) := by decide +kernel
theorem dX1_planFor_65 : decode cX1_planFor 65 = .ok (.iload 4, 2) := by decide +kernel
theorem dX1_planFor_67 : decode cX1_planFor 67 = .ok (.isub, 1) := by decide +kernel
theorem dX1_planFor_68 : decode cX1_planFor 68 = .ok (.iaload, 1) := by decide +kernel
theorem dX1_planFor_69 : decode cX1_planFor 69 = .ok (.iadd, 1) := by decide +kernel
theorem dX1_planFor_70 : decode cX1_planFor 70 = .ok (.istore 5, 2) := by decide +kernel
theorem dX1_planFor_72 : decode cX1_planFor 72 = .ok (.aload_n 0, 1) := by decide +kernel
theorem dX1_planFor_73 : decode cX1_planFor 73 = .ok (.getfield 37, 3) := by decide +kernel
theorem dX1_planFor_76 : decode cX1_planFor 76 = .ok (.iconst (-1), 1) := by decide +kernel
theorem dX1_planFor_77 : decode cX1_planFor 77 = .ok (.if_icmp .eq 12, 3) := by decide +kernel
theorem dX1_planFor_80 : decode cX1_planFor 80 = .ok (.iload 5, 2) := by decide +kernel
theorem dX1_planFor_82 : decode cX1_planFor 82 = .ok (.iload_n 2, 1) := by decide +kernel
theorem dX1_planFor_83 : decode cX1_planFor 83 = .ok (.if_icmp .lt 6, 3) := by decide +kernel
theorem dX1_planFor_86 : decode cX1_planFor 86 = .ok (.goto 11, 3) := by decide +kernel
theorem dX1_planFor_89 : decode cX1_planFor 89 = .ok (.iload 5, 2) := by decide +kernel
theorem dX1_planFor_91 : decode cX1_planFor 91 = .ok (.istore_n 2, 1) := by decide +kernel
theorem dX1_planFor_92 : decode cX1_planFor 92 = .ok (.aload_n 0, 1) := by decide +kernel
theorem dX1_planFor_93 : decode cX1_planFor 93 = .ok (.iload_n 3, 1) := by decide +kernel
theorem dX1_planFor_94 : decode cX1_planFor 94 = .ok (.putfield 37, 3) := by decide +kernel
theorem dX1_planFor_97 : decode cX1_planFor 97 = .ok (.iinc 3 1, 3) := by decide +kernel
theorem dX1_planFor_100 : decode cX1_planFor 100 = .ok (.goto (-91), 3) := by decide +kernel
theorem dX1_planFor_103 : decode cX1_planFor 103 = .ok (.aload_n 0, 1) := by decide +kernel
theorem dX1_planFor_104 : decode cX1_planFor 104 = .ok (.getfield 34, 3) := by decide +kernel
theorem dX1_planFor_107 : decode cX1_planFor 107 = .ok (.iload_n 1, 1) := by decide +kernel
theorem dX1_planFor_108 : decode cX1_planFor 108 = .ok (.iload_n 2, 1) := by decide +kernel
theorem dX1_planFor_109 : decode cX1_planFor 109 = .ok (.iastore, 1) := by decide +kernel
theorem dX1_planFor_110 : decode cX1_planFor 110 = .ok (.return_, 1) := by decide +kernel
theorem dX1_digestFrom_0 : decode cX1_digestFrom 0 = .ok (.lload_n 1, 1) := by decide +kernel
theorem dX1_digestFrom_1 : decode cX1_digestFrom 1 = .ok (.lstore_n 3, 1) := by decide +kernel
theorem dX1_digestFrom_2 : decode cX1_digestFrom 2 = .ok (.iconst 0, 1) := by decide +kernel
theorem dX1_digestFrom_3 : decode cX1_digestFrom 3 = .ok (.istore 5, 2) := by decide +kernel
theorem dX1_digestFrom_5 : decode cX1_digestFrom 5 = .ok (.iload 5, 2) := by decide +kernel
theorem dX1_digestFrom_7 : decode cX1_digestFrom 7 = .ok (.aload_n 0, 1) := by decide +kernel
theorem dX1_digestFrom_8 : decode cX1_digestFrom 8 = .ok (.getfield 18, 3) := by decide +kernel
theorem dX1_digestFrom_11 : decode cX1_digestFrom 11 = .ok (.if_icmp .ge 39, 3) := by decide +kernel
theorem dX1_digestFrom_14 : decode cX1_digestFrom 14 = .ok (.ldc2_w 80, 3) := by decide +kernel
theorem dX1_digestFrom_17 : decode cX1_digestFrom 17 = .ok (.lload_n 3, 1) := by decide +kernel
theorem dX1_digestFrom_18 : decode cX1_digestFrom 18 = .ok (.lmul, 1) := by decide +kernel
theorem dX1_digestFrom_19 : decode cX1_digestFrom 19 = .ok (.aload_n 0, 1) := by decide +kernel
theorem dX1_digestFrom_20 : decode cX1_digestFrom 20 = .ok (.getfield 11, 3) := by decide +kernel
theorem dX1_digestFrom_23 : decode cX1_digestFrom 23 = .ok (.iload 5, 2) := by decide +kernel
theorem dX1_digestFrom_25 : decode cX1_digestFrom 25 = .ok (.iaload, 1) := by decide +kernel
theorem dX1_digestFrom_26 : decode cX1_digestFrom 26 = .ok (.i2l, 1) := by decide +kernel
theorem dX1_digestFrom_27 : decode cX1_digestFrom 27 = .ok (.ladd, 1) := by decide +kernel
theorem dX1_digestFrom_28 : decode cX1_digestFrom 28 = .ok (.lstore_n 3, 1) := by decide +kernel
theorem dX1_digestFrom_29 : decode cX1_digestFrom 29 = .ok (.ldc2_w 80, 3) := by decide +kernel
theorem dX1_digestFrom_32 : decode cX1_digestFrom 32 = .ok (.lload_n 3, 1) := by decide +kernel
theorem dX1_digestFrom_33 : decode cX1_digestFrom 33 = .ok (.lmul, 1) := by decide +kernel
theorem dX1_digestFrom_34 : decode cX1_digestFrom 34 = .ok (.aload_n 0, 1) := by decide +kernel
theorem dX1_digestFrom_35 : decode cX1_digestFrom 35 = .ok (.getfield 15, 3) := by decide +kernel
theorem dX1_digestFrom_38 : decode cX1_digestFrom 38 = .ok (.iload 5, 2) := by decide +kernel
theorem dX1_digestFrom_40 : decode cX1_digestFrom 40 = .ok (.iaload, 1) := by decide +kernel
theorem dX1_digestFrom_41 : decode cX1_digestFrom 41 = .ok (.i2l, 1) := by decide +kernel
theorem dX1_digestFrom_42 : decode cX1_digestFrom 42 = .ok (.ladd, 1) := by decide +kernel
theorem dX1_digestFrom_43 : decode cX1_digestFrom 43 = .ok (.lstore_n 3, 1) := by decide +kernel
theorem dX1_digestFrom_44 : decode cX1_digestFrom 44 = .ok (.iinc 5 1, 3) := by decide +kernel
theorem dX1_digestFrom_47 : decode cX1_digestFrom 47 = .ok (.goto (-42), 3) := by decide +kernel
theorem dX1_digestFrom_50 : decode cX1_digestFrom 50 = .ok (.lload_n 3, 1) := by decide +kernel
theorem dX1_digestFrom_51 : decode cX1_digestFrom 51 = .ok (.lreturn, 1) := by decide +kernel
set_option maxRecDepth 20000 in
theorem ggX2_init_X1_init : GoodIn wsX2_init wsX1_init := goodIn_r _ [19, 20, 2, 3, 7, 21, 22, 23, 24, 25, 26, 27, 28, 29, 30, 31, 32, 33, 43, 44, 45, 46, 47, 48, 49, 50, 51, 52, 53, 54, 55] (by decide +kernel) (by decide +kernel)
set_option maxRecDepth 20000 in
theorem gX2_init_X1_init_n41 : GoodIn wsX2_init (wsX1_init) := ggX2_init_X1_init
end
section
theorem dX2_init_0 : decode cX2_init 0 = .ok (.aload_n 0, 1) := by decide +kernel
theorem dX2_init_1 : decode cX2_init 1 = .ok (.invokespecial 1, 3) := by decide +kernel
theorem dX2_init_4 : decode cX2_init 4 = .ok (.aload_n 0, 1) := by decide +kernel
theorem dX2_init_5 : decode cX2_init 5 = .ok (.bipush 16, 2) := by decide +kernel
theorem dX2_init_7 : decode cX2_init 7 = .ok (.anewarray 9, 3) := by decide +kernel
theorem dX2_init_10 : decode cX2_init 10 = .ok (.putfield 11, 3) := by decide +kernel
theorem dX2_init_13 : decode cX2_init 13 = .ok (.aload_n 0, 1) := by decide +kernel
theorem dX2_init_14 : decode cX2_init 14 = .ok (.iconst 0, 1) := by decide +kernel
theorem dX2_init_15 : decode cX2_init 15 = .ok (.putfield 15, 3) := by decide +kernel
theorem dX2_init_18 : decode cX2_init 18 = .ok (.aload_n 0, 1) := by decide +kernel
theorem dX2_init_19 : decode cX2_init 19 = .ok (.iconst 4, 1) := by decide +kernel
theorem dX2_init_20 : decode cX2_init 20 = .ok (.newarray .int, 2) := by decide +kernel
theorem dX2_init_22 : decode cX2_init 22 = .ok (.putfield 19, 3) := by decide +kernel
theorem dX2_init_25 : decode cX2_init 25 = .ok (.aload_n 0, 1) := by decide +kernel
theorem dX2_init_26 : decode cX2_init 26 = .ok (.bipush 8, 2) := by decide +kernel
theorem dX2_init_28 : decode cX2_init 28 = .ok (.putfield 23, 3) := by decide +kernel
theorem dX2_init_31 : decode cX2_init 31 = .ok (.aload_n 0, 1) := by decide +kernel
theorem dX2_init_32 : decode cX2_init 32 = .ok (.iconst 0, 1) := by decide +kernel
theorem dX2_init_33 : decode cX2_init 33 = .ok (.putfield 26, 3) := by decide +kernel
theorem dX2_init_36 : decode cX2_init 36 = .ok (.aload_n 0, 1) := by decide +kernel
theorem dX2_init_37 : decode cX2_init 37 = .ok (.iconst 0, 1) := by decide +kernel
theorem dX2_init_38 : decode cX2_init 38 = .ok (.putfield 29, 3) := by decide +kernel
theorem dX2_init_41 : decode cX2_init 41 = .ok (.aload_n 0, 1) := by decide +kernel
theorem dX2_init_42 : decode cX2_init 42 = .ok (.iconst 0, 1) := by decide +kernel
theorem dX2_init_43 : decode cX2_init 43 = .ok (.putfield 32, 3) := by decide +kernel
theorem dX2_init_46 : decode cX2_init 46 = .ok (.aload_n 0, 1) := by decide +kernel
theorem dX2_init_47 : decode cX2_init 47 = .ok (.iconst 0, 1) := by decide +kernel
theorem dX2_init_48 : decode cX2_init 48 = .ok (.putfield 36, 3) := by decide +kernel
theorem dX2_init_51 : decode cX2_init 51 = .ok (.aload_n 0, 1) := by decide +kernel
theorem dX2_init_52 : decode cX2_init 52 = .ok (.new 39, 3) := by decide +kernel
theorem dX2_init_55 : decode cX2_init 55 = .ok (.dup, 1) := by decide +kernel
theorem dX2_init_56 : decode cX2_init 56 = .ok (.invokespecial 41, 3) := by decide +kernel
theorem dX2_init_59 : decode cX2_init 59 = .ok (.putfield 42, 3) := by decide +kernel
theorem dX2_init_62 : decode cX2_init 62 = .ok (.return_, 1) := by decide +kernel
set_option maxRecDepth 20000 in
theorem ggX2_check_X2_isWithin : GoodIn wsX2_check wsX2_isWithin := goodIn_r _ [10] (by decide +kernel) (by decide +kernel)
set_option maxRecDepth 20000 in
theorem gX2_check_X2_isWithin : GoodIn wsX2_check (va_wsS RX2 46 yX2_isWithin wsX2_isWithin) := goodIn_app (goodIn_of _ (by decide +kernel)) ggX2_check_X2_isWithin
set_option maxRecDepth 20000 in
theorem ggX2_check_X2_checkAt : GoodIn wsX2_check wsX2_checkAt := goodIn_r _ [14, 2, 3, 7, 8, 9, 10, 40, 41, 42, 43, 44, 45, 46, 47, 48] (by decide +kernel) (by decide +kernel)
set_option maxRecDepth 20000 in
theorem gX2_check_X2_checkAt : GoodIn wsX2_check (wsV RX2 50 RX2 yX2_checkAt wsX2_checkAt) := goodIn_app (goodIn_of _ (by decide +kernel)) ggX2_check_X2_checkAt
set_option maxRecDepth 20000 in
theorem ggX2_check_X0_init : GoodIn wsX2_check wsX0_init := goodIn_r _ [17, 18, 19, 20, 21, 22, 23, 24, 25, 26, 27, 28, 29, 30, 31, 32, 33, 34, 35, 36, 37, 38, 39, 49, 50, 51, 52, 53, 54, 55, 56, 57, 58, 59, 60, 61, 62, 63, 64, 65, 66] (by decide +kernel) (by decide +kernel)
set_option maxRecDepth 20000 in
theorem gX2_check_X0_init : GoodIn wsX2_check (wsX0_init) := ggX2_check_X0_init
theorem dX2_check_0 : decode cX2_check 0 = .ok (.iload_n 1, 1) := by decide +kernel
theorem dX2_check_1 : decode cX2_check 1 = .ok (.iconst 0, 1) := by decide +kernel
theorem dX2_check_2 : decode cX2_check 2 = .ok (.iconst 2, 1) := by decide +kernel
theorem dX2_check_3 : decode cX2_check 3 = .ok (.invokestatic 46, 3) := by decide +kernel
theorem dX2_check_6 : decode cX2_check 6 = .ok (.ifCond .ne 6, 3) := by decide +kernel
theorem dX2_check_9 : decode cX2_check 9 = .ok (.bipush (-2), 2) := by decide +kernel
theorem dX2_check_11 : decode cX2_check 11 = .ok (.ireturn, 1) := by decide +kernel
theorem dX2_check_12 : decode cX2_check 12 = .ok (.iload_n 1, 1) := by decide +kernel
theorem dX2_check_13 : decode cX2_check 13 = .ok (.iconst 2, 1) := by decide +kernel
theorem dX2_check_14 : decode cX2_check 14 = .ok (.if_icmp .ne 14, 3) := by decide +kernel
theorem dX2_check_17 : decode cX2_check 17 = .ok (.aload_n 0, 1) := by decide +kernel
theorem dX2_check_18 : decode cX2_check 18 = .ok (.iload_n 2, 1) := by decide +kernel
theorem dX2_check_19 : decode cX2_check 19 = .ok (.invokevirtual 50, 3) := by decide +kernel
theorem dX2_check_22 : decode cX2_check 22 = .ok (.ifnonnull 6, 3) := by decide +kernel
theorem dX2_check_25 : decode cX2_check 25 = .ok (.bipush (-2), 2) := by decide +kernel
theorem dX2_check_27 : decode cX2_check 27 = .ok (.ireturn, 1) := by decide +kernel
theorem dX2_check_28 : decode cX2_check 28 = .ok (.iload_n 3, 1) := by decide +kernel
theorem dX2_check_29 : decode cX2_check 29 = .ok (.iconst 1, 1) := by decide +kernel
theorem dX2_check_30 : decode cX2_check 30 = .ok (.bipush 9, 2) := by decide +kernel
theorem dX2_check_32 : decode cX2_check 32 = .ok (.invokestatic 46, 3) := by decide +kernel
theorem dX2_check_35 : decode cX2_check 35 = .ok (.ifCond .eq 14, 3) := by decide +kernel
theorem dX2_check_38 : decode cX2_check 38 = .ok (.iload 4, 2) := by decide +kernel
theorem dX2_check_40 : decode cX2_check 40 = .ok (.iconst 1, 1) := by decide +kernel
theorem dX2_check_41 : decode cX2_check 41 = .ok (.bipush 9, 2) := by decide +kernel
theorem dX2_check_43 : decode cX2_check 43 = .ok (.invokestatic 46, 3) := by decide +kernel
theorem dX2_check_46 : decode cX2_check 46 = .ok (.ifCond .ne 6, 3) := by decide +kernel
theorem dX2_check_49 : decode cX2_check 49 = .ok (.bipush (-2), 2) := by decide +kernel
theorem dX2_check_51 : decode cX2_check 51 = .ok (.ireturn, 1) := by decide +kernel
theorem dX2_check_52 : decode cX2_check 52 = .ok (.iload 5, 2) := by decide +kernel
theorem dX2_check_54 : decode cX2_check 54 = .ok (.iconst 1, 1) := by decide +kernel
theorem dX2_check_55 : decode cX2_check 55 = .ok (.bipush 90, 2) := by decide +kernel
theorem dX2_check_57 : decode cX2_check 57 = .ok (.invokestatic 46, 3) := by decide +kernel
theorem dX2_check_60 : decode cX2_check 60 = .ok (.ifCond .eq 14, 3) := by decide +kernel
theorem dX2_check_63 : decode cX2_check 63 = .ok (.iload 6, 2) := by decide +kernel
theorem dX2_check_65 : decode cX2_check 65 = .ok (.iconst 0, 1) := by decide +kernel
theorem dX2_check_66 : decode cX2_check 66 = .ok (.bipush 9, 2) := by decide +kernel
theorem dX2_check_68 : decode cX2_check 68 = .ok (.invokestatic 46, 3) := by decide +kernel
theorem dX2_check_71 : decode cX2_check 71 = .ok (.ifCond .ne 6, 3) := by decide +kernel
theorem dX2_check_74 : decode cX2_check 74 = .ok (.bipush (-2), 2) := by decide +kernel
theorem dX2_check_76 : decode cX2_check 76 = .ok (.ireturn, 1) := by decide +kernel
theorem dX2_check_77 : decode cX2_check 77 = .ok (.aload_n 0, 1) := by decide +kernel
theorem dX2_check_78 : decode cX2_check 78 = .ok (.getfield 32, 3) := by decide +kernel
theorem dX2_check_81 : decode cX2_check 81 = .ok (.ifCond .eq 6, 3) := by decide +kernel
theorem dX2_check_84 : decode cX2_check 84 = .ok (.bipush (-3), 2) := by decide +kernel
theorem dX2_check_86 : decode cX2_check 86 = .ok (.ireturn, 1) := by decide +kernel
theorem dX2_check_87 : decode cX2_check 87 = .ok (.aload_n 0, 1) := by decide +kernel
theorem dX2_check_88 : decode cX2_check 88 = .ok (.getfield 15, 3) := by decide +kernel
theorem dX2_check_91 : decode cX2_check 91 = .ok (.bipush 16, 2) := by decide +kernel
theorem dX2_check_93 : decode cX2_check 93 = .ok (.if_icmp .lt 6, 3) := by decide +kernel
theorem dX2_check_96 : decode cX2_check 96 = .ok (.bipush (-4), 2) := by decide +kernel
theorem dX2_check_98 : decode cX2_check 98 = .ok (.ireturn, 1) := by decide +kernel
theorem dX2_check_99 : decode cX2_check 99 = .ok (.aload_n 0, 1) := by decide +kernel
theorem dX2_check_100 : decode cX2_check 100 = .ok (.getfield 11, 3) := by decide +kernel
theorem dX2_check_103 : decode cX2_check 103 = .ok (.aload_n 0, 1) := by decide +kernel
theorem dX2_check_104 : decode cX2_check 104 = .ok (.getfield 15, 3) := by decide +kernel
theorem dX2_check_107 : decode cX2_check 107 = .ok (.new 9, 3) := by decide +kernel
theorem dX2_check_110 : decode cX2_check 110 = .ok (.dup, 1) := by decide +kernel
theorem dX2_check_111 : decode cX2_check 111 = .ok (.iload_n 1, 1) := by decide +kernel
theorem dX2_check_112 : decode cX2_check 112 = .ok (.iload_n 2, 1) := by decide +kernel
theorem dX2_check_113 : decode cX2_check 113 = .ok (.iload_n 3, 1) := by decide +kernel
theorem dX2_check_114 : decode cX2_check 114 = .ok (.iload 4, 2) := by decide +kernel
theorem dX2_check_116 : decode cX2_check 116 = .ok (.iload 5, 2) := by decide +kernel
theorem dX2_check_118 : decode cX2_check 118 = .ok (.iload 6, 2) := by decide +kernel
theorem dX2_check_120 : decode cX2_check 120 = .ok (.iload 7, 2) := by decide +kernel
theorem dX2_check_122 : decode cX2_check 122 = .ok (.invokespecial 54, 3) := by decide +kernel
theorem dX2_check_125 : decode cX2_check 125 = .ok (.aastore, 1) := by decide +kernel
theorem dX2_check_126 : decode cX2_check 126 = .ok (.aload_n 0, 1) := by decide +kernel
theorem dX2_check_127 : decode cX2_check 127 = .ok (.dup, 1) := by decide +kernel
theorem dX2_check_128 : decode cX2_check 128 = .ok (.getfield 15, 3) := by decide +kernel
theorem dX2_check_131 : decode cX2_check 131 = .ok (.iconst 1, 1) := by decide +kernel
theorem dX2_check_132 : decode cX2_check 132 = .ok (.iadd, 1) := by decide +kernel
theorem dX2_check_133 : decode cX2_check 133 = .ok (.putfield 15, 3) := by decide +kernel
theorem dX2_check_136 : decode cX2_check 136 = .ok (.aload_n 0, 1) := by decide +kernel
theorem dX2_check_137 : decode cX2_check 137 = .ok (.getfield 15, 3) := by decide +kernel
theorem dX2_check_140 : decode cX2_check 140 = .ok (.iconst 1, 1) := by decide +kernel
theorem dX2_check_141 : decode cX2_check 141 = .ok (.isub, 1) := by decide +kernel
theorem dX2_check_142 : decode cX2_check 142 = .ok (.ireturn, 1) := by decide +kernel
set_option maxRecDepth 20000 in
theorem ggX2_begin_X2_troubledBits : GoodIn wsX2_begin wsX2_troubledBits := goodIn_r _ [8, 9, 10, 11, 7, 12, 13, 14, 15, 16, 17, 18, 19, 20, 21, 22, 23, 24, 25, 26, 27, 28, 29, 30, 31, 32, 33, 34, 35, 36, 37, 38, 39, 40, 41, 42, 43, 44, 45, 46, 47, 48, 49] (by decide +kernel) (by decide +kernel)
set_option maxRecDepth 20000 in
theorem gX2_begin_X2_troubledBits : GoodIn wsX2_begin (wsV RX2 57 RX2 yX2_troubledBits wsX2_troubledBits) := goodIn_app (goodIn_of _ (by decide +kernel)) ggX2_begin_X2_troubledBits
theorem dX2_begin_0 : decode cX2_begin 0 = .ok (.aload_n 0, 1) := by decide +kernel
theorem dX2_begin_1 : decode cX2_begin 1 = .ok (.getfield 32, 3) := by decide +kernel
theorem dX2_begin_4 : decode cX2_begin 4 = .ok (.ifCond .eq 6, 3) := by decide +kernel
theorem dX2_begin_7 : decode cX2_begin 7 = .ok (.bipush (-3), 2) := by decide +kernel
theorem dX2_begin_9 : decode cX2_begin 9 = .ok (.ireturn, 1) := by decide +kernel
theorem dX2_begin_10 : decode cX2_begin 10 = .ok (.aload_n 0, 1) := by decide +kernel
theorem dX2_begin_11 : decode cX2_begin 11 = .ok (.iconst 1, 1) := by decide +kernel
theorem dX2_begin_12 : decode cX2_begin 12 = .ok (.putfield 32, 3) := by decide +kernel
theorem dX2_begin_15 : decode cX2_begin 15 = .ok (.aload_n 0, 1) := by decide +kernel
theorem dX2_begin_16 : decode cX2_begin 16 = .ok (.aload_n 0, 1) := by decide +kernel
theorem dX2_begin_17 : decode cX2_begin 17 = .ok (.invokevirtual 57, 3) := by decide +kernel
theorem dX2_begin_20 : decode cX2_begin 20 = .ok (.putfield 36, 3) := by decide +kernel
theorem dX2_begin_23 : decode cX2_begin 23 = .ok (.aload_n 0, 1) := by decide +kernel
theorem dX2_begin_24 : decode cX2_begin 24 = .ok (.getfield 29, 3) := by decide +kernel
theorem dX2_begin_27 : decode cX2_begin 27 = .ok (.ireturn, 1) := by decide +kernel
set_option maxRecDepth 20000 in
theorem ggX2_ran_X2_checkAt : GoodIn wsX2_ran wsX2_checkAt := goodIn_r _ [6, 7, 8, 9, 10, 5, 11, 18, 19, 20, 21, 22, 23, 24, 25, 26] (by decide +kernel) (by decide +kernel)
set_option maxRecDepth 20000 in
theorem gX2_ran_X2_checkAt : GoodIn wsX2_ran (wsV RX2 50 RX2 yX2_checkAt wsX2_checkAt) := goodIn_app (goodIn_of _ (by decide +kernel)) ggX2_ran_X2_checkAt
set_option maxRecDepth 20000 in
theorem ggX2_ran_X0_tell : GoodIn wsX2_ran wsX0_tell := goodIn_r _ [16, 17, 27, 28, 29, 30, 31, 32, 33, 34, 35, 36, 37, 38, 39, 40, 41, 42, 43, 44] (by decide +kernel) (by decide +kernel)
set_option maxRecDepth 20000 in
theorem gX2_ran_X0_tell : GoodIn wsX2_ran (wsV RX2 61 RX0 yX0_tell wsX0_tell) := goodIn_app (goodIn_of _ (by decide +kernel)) ggX2_ran_X0_tell
theorem dX2_ran_0 : decode cX2_ran 0 = .ok (.aload_n 0, 1) := by decide +kernel
theorem dX2_ran_1 : decode cX2_ran 1 = .ok (.iload_n 1, 1) := by decide +kernel
theorem dX2_ran_2 : decode cX2_ran 2 = .ok (.invokevirtual 50, 3) := by decide +kernel
theorem dX2_ran_5 : decode cX2_ran 5 = .ok (.astore_n 3, 1) := by decide +kernel
theorem dX2_ran_6 : decode cX2_ran 6 = .ok (.aload_n 3, 1) := by decide +kernel
theorem dX2_ran_7 : decode cX2_ran 7 = .ok (.ifnonnull 6, 3) := by decide +kernel
theorem dX2_ran_10 : decode cX2_ran 10 = .ok (.bipush (-2), 2) := by decide +kernel
theorem dX2_ran_12 : decode cX2_ran 12 = .ok (.ireturn, 1) := by decide +kernel
theorem dX2_ran_13 : decode cX2_ran 13 = .ok (.aload_n 0, 1) := by decide +kernel
theorem dX2_ran_14 : decode cX2_ran 14 = .ok (.getfield 32, 3) := by decide +kernel
theorem dX2_ran_17 : decode cX2_ran 17 = .ok (.ifCond .ne 6, 3) := by decide +kernel
theorem dX2_ran_20 : decode cX2_ran 20 = .ok (.bipush (-3), 2) := by decide +kernel
theorem dX2_ran_22 : decode cX2_ran 22 = .ok (.ireturn, 1) := by decide +kernel
theorem dX2_ran_23 : decode cX2_ran 23 = .ok (.aload_n 3, 1) := by decide +kernel
theorem dX2_ran_24 : decode cX2_ran 24 = .ok (.iload_n 2, 1) := by decide +kernel
theorem dX2_ran_25 : decode cX2_ran 25 = .ok (.invokevirtual 61, 3) := by decide +kernel
theorem dX2_ran_28 : decode cX2_ran 28 = .ok (.iconst 1, 1) := by decide +kernel
theorem dX2_ran_29 : decode cX2_ran 29 = .ok (.ireturn, 1) := by decide +kernel
set_option maxRecDepth 20000 in
theorem ggX2_end_X2_checkAt : GoodIn wsX2_end wsX2_checkAt := goodIn_r _ [8, 2, 9, 10, 11, 7, 12, 105, 106, 107, 108, 109, 110, 111, 112, 113] (by decide +kernel) (by decide +kernel)
set_option maxRecDepth 20000 in
theorem gX2_end_X2_checkAt : GoodIn wsX2_end (wsV RX2 50 RX2 yX2_checkAt wsX2_checkAt) := goodIn_app (goodIn_of _ (by decide +kernel)) ggX2_end_X2_checkAt
set_option maxRecDepth 20000 in
theorem ggX2_end_X2_endFor : GoodIn wsX2_end wsX2_endFor := goodIn_r _ [16, 17, 18, 19, 20, 7, 21, 22, 23, 4, 5, 6, 8, 2, 9, 10, 11, 12, 24, 25, 26, 27, 28, 29, 30, 31, 32, 33, 34, 35, 36, 37, 38, 39, 40, 41, 42, 43, 44, 45, 46, 47, 48, 49, 50, 51, 52, 53, 54, 55, 56, 57, 58, 59, 60, 61, 62, 63, 64, 65, 66, 67, 68, 69, 3, 70, 71, 72, 73, 74, 75, 76, 77, 78, 79, 80, 81, 82, 83, 84, 85, 86, 87, 88, 89, 90, 91, 92, 93, 94, 95, 96, 97, 98, 99, 100, 101, 102, 103, 104, 105, 106, 107, 108, 109, 110, 111, 112, 113, 114, 115, 116, 117, 118, 119, 120, 121, 122, 123, 124, 125, 126, 127, 128, 129, 130, 131] (by decide +kernel) (by decide +kernel)
set_option maxRecDepth 20000 in
theorem gX2_end_X2_endFor : GoodIn wsX2_end (wsV RX2 65 RX2 yX2_endFor wsX2_endFor) := goodIn_app (goodIn_of _ (by decide +kernel)) ggX2_end_X2_endFor
theorem dX2_end_0 : decode cX2_end 0 = .ok (.aload_n 0, 1) := by decide +kernel
theorem dX2_end_1 : decode cX2_end 1 = .ok (.getfield 32, 3) := by decide +kernel
theorem dX2_end_4 : decode cX2_end 4 = .ok (.ifCond .ne 6, 3) := by decide +kernel
theorem dX2_end_7 : decode cX2_end 7 = .ok (.bipush (-3), 2) := by decide +kernel
theorem dX2_end_9 : decode cX2_end 9 = .ok (.ireturn, 1) := by decide +kernel
theorem dX2_end_10 : decode cX2_end 10 = .ok (.iconst 0, 1) := by decide +kernel
theorem dX2_end_11 : decode cX2_end 11 = .ok (.istore_n 1, 1) := by decide +kernel
theorem dX2_end_12 : decode cX2_end 12 = .ok (.iconst 0, 1) := by decide +kernel
theorem dX2_end_13 : decode cX2_end 13 = .ok (.istore_n 2, 1) := by decide +kernel
theorem dX2_end_14 : decode cX2_end 14 = .ok (.iload_n 2, 1) := by decide +kernel
theorem dX2_end_15 : decode cX2_end 15 = .ok (.aload_n 0, 1) := by decide +kernel
theorem dX2_end_16 : decode cX2_end 16 = .ok (.getfield 15, 3) := by decide +kernel
theorem dX2_end_19 : decode cX2_end 19 = .ok (.if_icmp .ge 30, 3) := by decide +kernel
theorem dX2_end_22 : decode cX2_end 22 = .ok (.aload_n 0, 1) := by decide +kernel
theorem dX2_end_23 : decode cX2_end 23 = .ok (.iload_n 2, 1) := by decide +kernel
theorem dX2_end_24 : decode cX2_end 24 = .ok (.invokevirtual 50, 3) := by decide +kernel
theorem dX2_end_27 : decode cX2_end 27 = .ok (.astore_n 3, 1) := by decide +kernel
theorem dX2_end_28 : decode cX2_end 28 = .ok (.aload_n 3, 1) := by decide +kernel
theorem dX2_end_29 : decode cX2_end 29 = .ok (.ifnull 14, 3) := by decide +kernel
theorem dX2_end_32 : decode cX2_end 32 = .ok (.aload_n 0, 1) := by decide +kernel
theorem dX2_end_33 : decode cX2_end 33 = .ok (.aload_n 3, 1) := by decide +kernel
theorem dX2_end_34 : decode cX2_end 34 = .ok (.invokevirtual 65, 3) := by decide +kernel
theorem dX2_end_37 : decode cX2_end 37 = .ok (.ifCond .eq 6, 3) := by decide +kernel
theorem dX2_end_40 : decode cX2_end 40 = .ok (.iinc 1 1, 3) := by decide +kernel
theorem dX2_end_43 : decode cX2_end 43 = .ok (.iinc 2 1, 3) := by decide +kernel
theorem dX2_end_46 : decode cX2_end 46 = .ok (.goto (-32), 3) := by decide +kernel
theorem dX2_end_49 : decode cX2_end 49 = .ok (.aload_n 0, 1) := by decide +kernel
theorem dX2_end_50 : decode cX2_end 50 = .ok (.iconst 0, 1) := by decide +kernel
theorem dX2_end_51 : decode cX2_end 51 = .ok (.putfield 32, 3) := by decide +kernel
theorem dX2_end_54 : decode cX2_end 54 = .ok (.aload_n 0, 1) := by decide +kernel
theorem dX2_end_55 : decode cX2_end 55 = .ok (.dup, 1) := by decide +kernel
theorem dX2_end_56 : decode cX2_end 56 = .ok (.getfield 29, 3) := by decide +kernel
theorem dX2_end_59 : decode cX2_end 59 = .ok (.iconst 1, 1) := by decide +kernel
theorem dX2_end_60 : decode cX2_end 60 = .ok (.iadd, 1) := by decide +kernel
theorem dX2_end_61 : decode cX2_end 61 = .ok (.putfield 29, 3) := by decide +kernel
theorem dX2_end_64 : decode cX2_end 64 = .ok (.iload_n 1, 1) := by decide +kernel
theorem dX2_end_65 : decode cX2_end 65 = .ok (.ireturn, 1) := by decide +kernel
set_option maxRecDepth 20000 in
theorem ggX2_fact_X2_isWithin : GoodIn wsX2_fact wsX2_isWithin := goodIn_r _ [5] (by decide +kernel) (by decide +kernel)
set_option maxRecDepth 20000 in
theorem gX2_fact_X2_isWithin : GoodIn wsX2_fact (va_wsS RX2 46 yX2_isWithin wsX2_isWithin) := goodIn_app (goodIn_of _ (by decide +kernel)) ggX2_fact_X2_isWithin
theorem dX2_fact_0 : decode cX2_fact 0 = .ok (.iload_n 1, 1) := by decide +kernel
theorem dX2_fact_1 : decode cX2_fact 1 = .ok (.iconst 0, 1) := by decide +kernel
theorem dX2_fact_2 : decode cX2_fact 2 = .ok (.iconst 3, 1) := by decide +kernel
theorem dX2_fact_3 : decode cX2_fact 3 = .ok (.invokestatic 46, 3) := by decide +kernel
theorem dX2_fact_6 : decode cX2_fact 6 = .ok (.ifCond .eq 16, 3) := by decide +kernel
theorem dX2_fact_9 : decode cX2_fact 9 = .ok (.iload_n 2, 1) := by decide +kernel
theorem dX2_fact_10 : decode cX2_fact 10 = .ok (.sipush (-1000), 3) := by decide +kernel
theorem dX2_fact_13 : decode cX2_fact 13 = .ok (.sipush 1000, 3) := by decide +kernel
theorem dX2_fact_16 : decode cX2_fact 16 = .ok (.invokestatic 46, 3) := by decide +kernel
theorem dX2_fact_19 : decode cX2_fact 19 = .ok (.ifCond .ne 7, 3) := by decide +kernel
theorem dX2_fact_22 : decode cX2_fact 22 = .ok (.sipush (-2000), 3) := by decide +kernel
theorem dX2_fact_25 : decode cX2_fact 25 = .ok (.ireturn, 1) := by decide +kernel
theorem dX2_fact_26 : decode cX2_fact 26 = .ok (.aload_n 0, 1) := by decide +kernel
theorem dX2_fact_27 : decode cX2_fact 27 = .ok (.getfield 19, 3) := by decide +kernel
theorem dX2_fact_30 : decode cX2_fact 30 = .ok (.iload_n 1, 1) := by decide +kernel
theorem dX2_fact_31 : decode cX2_fact 31 = .ok (.iaload, 1) := by decide +kernel
theorem dX2_fact_32 : decode cX2_fact 32 = .ok (.istore_n 3, 1) := by decide +kernel
theorem dX2_fact_33 : decode cX2_fact 33 = .ok (.aload_n 0, 1) := by decide +kernel
theorem dX2_fact_34 : decode cX2_fact 34 = .ok (.getfield 19, 3) := by decide +kernel
theorem dX2_fact_37 : decode cX2_fact 37 = .ok (.iload_n 1, 1) := by decide +kernel
theorem dX2_fact_38 : decode cX2_fact 38 = .ok (.iload_n 2, 1) := by decide +kernel
theorem dX2_fact_39 : decode cX2_fact 39 = .ok (.iastore, 1) := by decide +kernel
theorem dX2_fact_40 : decode cX2_fact 40 = .ok (.iload_n 3, 1) := by decide +kernel
theorem dX2_fact_41 : decode cX2_fact 41 = .ok (.ireturn, 1) := by decide +kernel
set_option maxRecDepth 20000 in
theorem ggX2_room_X2_isWithin : GoodIn wsX2_room wsX2_isWithin := goodIn_r _ [5] (by decide +kernel) (by decide +kernel)
set_option maxRecDepth 20000 in
theorem gX2_room_X2_isWithin : GoodIn wsX2_room (va_wsS RX2 46 yX2_isWithin wsX2_isWithin) := goodIn_app (goodIn_of _ (by decide +kernel)) ggX2_room_X2_isWithin
set_option maxRecDepth 20000 in
theorem ggX2_room_X2_frozenCount : GoodIn wsX2_room wsX2_frozenCount := goodIn_r _ [9, 10, 11, 12, 13, 4, 14, 15, 2, 3, 5, 16, 17, 18, 19, 20, 21, 41, 42, 43, 44, 45, 46, 47, 48, 49, 50, 51, 52, 53, 54, 55, 56, 57, 58, 59, 60, 61, 62, 63, 64, 65, 66, 67] (by decide +kernel) (by decide +kernel)
set_option maxRecDepth 20000 in
theorem gX2_room_X2_frozenCount : GoodIn wsX2_room (wsV RX2 69 RX2 yX2_frozenCount wsX2_frozenCount) := goodIn_app (goodIn_of _ (by decide +kernel)) ggX2_room_X2_frozenCount
set_option maxRecDepth 20000 in
theorem ggX2_room_X2_leastFrozen : GoodIn wsX2_room wsX2_leastFrozen := goodIn_r _ [25, 10, 11, 12, 13, 4, 14, 15, 2, 3, 5, 16, 17, 18, 19, 20, 21, 26, 27, 28, 29, 30, 31, 32, 33, 34, 35, 36, 41, 42, 43, 44, 45, 46, 47, 48, 49, 50, 51, 52, 53, 54, 55, 56, 57, 58, 59, 60, 61, 62, 63, 64, 65, 66, 67] (by decide +kernel) (by decide +kernel)
set_option maxRecDepth 20000 in
theorem gX2_room_X2_leastFrozen : GoodIn wsX2_room (wsV RX2 72 RX2 yX2_leastFrozen wsX2_leastFrozen) := goodIn_app (goodIn_of _ (by decide +kernel)) ggX2_room_X2_leastFrozen
set_option maxRecDepth 20000 in
theorem ggX2_room_X0_thaw : GoodIn wsX2_room wsX0_thaw := goodIn_r _ [40, 21, 50, 51, 52, 53, 54, 55, 56, 57, 58, 59, 60, 61, 62, 63, 64, 65, 66, 67] (by decide +kernel) (by decide +kernel)
set_option maxRecDepth 20000 in
theorem gX2_room_X0_thaw : GoodIn wsX2_room (wsV RX2 76 RX0 yX0_thaw wsX0_thaw) := goodIn_app (goodIn_of _ (by decide +kernel)) ggX2_room_X0_thaw
theorem dX2_room_0 : decode cX2_room 0 = .ok (.iload_n 1, 1) := by decide +kernel
theorem dX2_room_1 : decode cX2_room 1 = .ok (.iconst 1, 1) := by decide +kernel
theorem dX2_room_2 : decode cX2_room 2 = .ok (.bipush 8, 2) := by decide +kernel
theorem dX2_room_4 : decode cX2_room 4 = .ok (.invokestatic 46, 3) := by decide +kernel
theorem dX2_room_7 : decode cX2_room 7 = .ok (.ifCond .ne 6, 3) := by decide +kernel
theorem dX2_room_10 : decode cX2_room 10 = .ok (.bipush (-2), 2) := by decide +kernel
theorem dX2_room_12 : decode cX2_room 12 = .ok (.ireturn, 1) := by decide +kernel
theorem dX2_room_13 : decode cX2_room 13 = .ok (.aload_n 0, 1) := by decide +kernel
theorem dX2_room_14 : decode cX2_room 14 = .ok (.getfield 23, 3) := by decide +kernel
theorem dX2_room_17 : decode cX2_room 17 = .ok (.istore_n 2, 1) := by decide +kernel
theorem dX2_room_18 : decode cX2_room 18 = .ok (.aload_n 0, 1) := by decide +kernel
theorem dX2_room_19 : decode cX2_room 19 = .ok (.iload_n 1, 1) := by decide +kernel
theorem dX2_room_20 : decode cX2_room 20 = .ok (.putfield 23, 3) := by decide +kernel
theorem dX2_room_23 : decode cX2_room 23 = .ok (.aload_n 0, 1) := by decide +kernel
theorem dX2_room_24 : decode cX2_room 24 = .ok (.invokevirtual 69, 3) := by decide +kernel
theorem dX2_room_27 : decode cX2_room 27 = .ok (.iload_n 1, 1) := by decide +kernel
theorem dX2_room_28 : decode cX2_room 28 = .ok (.isub, 1) := by decide +kernel
theorem dX2_room_29 : decode cX2_room 29 = .ok (.istore_n 3, 1) := by decide +kernel
theorem dX2_room_30 : decode cX2_room 30 = .ok (.iload_n 3, 1) := by decide +kernel
theorem dX2_room_31 : decode cX2_room 31 = .ok (.ifCond .le 28, 3) := by decide +kernel
theorem dX2_room_34 : decode cX2_room 34 = .ok (.aload_n 0, 1) := by decide +kernel
theorem dX2_room_35 : decode cX2_room 35 = .ok (.invokevirtual 72, 3) := by decide +kernel
theorem dX2_room_38 : decode cX2_room 38 = .ok (.astore 4, 2) := by decide +kernel
theorem dX2_room_40 : decode cX2_room 40 = .ok (.aload 4, 2) := by decide +kernel
theorem dX2_room_42 : decode cX2_room 42 = .ok (.ifnonnull 6, 3) := by decide +kernel
theorem dX2_room_45 : decode cX2_room 45 = .ok (.goto 14, 3) := by decide +kernel
theorem dX2_room_48 : decode cX2_room 48 = .ok (.aload 4, 2) := by decide +kernel
theorem dX2_room_50 : decode cX2_room 50 = .ok (.invokevirtual 76, 3) := by decide +kernel
theorem dX2_room_53 : decode cX2_room 53 = .ok (.iinc 3 (-1), 3) := by decide +kernel
theorem dX2_room_56 : decode cX2_room 56 = .ok (.goto (-26), 3) := by decide +kernel
theorem dX2_room_59 : decode cX2_room 59 = .ok (.iload_n 2, 1) := by decide +kernel
theorem dX2_room_60 : decode cX2_room 60 = .ok (.ireturn, 1) := by decide +kernel
set_option maxRecDepth 20000 in
theorem ggX2_about_X2_checkAt : GoodIn wsX2_about wsX2_checkAt := goodIn_r _ [5, 6, 7, 8, 9, 4, 10, 40, 41, 42, 43, 44, 45, 46, 47, 48] (by decide +kernel) (by decide +kernel)
set_option maxRecDepth 20000 in
theorem gX2_about_X2_checkAt : GoodIn wsX2_about (wsV RX2 50 RX2 yX2_checkAt wsX2_checkAt) := goodIn_app (goodIn_of _ (by decide +kernel)) ggX2_about_X2_checkAt
set_option maxRecDepth 20000 in
theorem ggX2_about_X2_isWithin : GoodIn wsX2_about wsX2_isWithin := goodIn_r _ [10] (by decide +kernel) (by decide +kernel)
set_option maxRecDepth 20000 in
theorem gX2_about_X2_isWithin : GoodIn wsX2_about (va_wsS RX2 46 yX2_isWithin wsX2_isWithin) := goodIn_app (goodIn_of _ (by decide +kernel)) ggX2_about_X2_isWithin
set_option maxRecDepth 20000 in
theorem ggX2_about_X2_isHeldBack : GoodIn wsX2_about wsX2_isHeldBack := goodIn_r _ [14, 15, 16, 1, 2, 3, 4, 5, 6, 7, 8, 9, 10, 17, 18, 19, 20, 21, 22, 49, 50, 51, 52, 53, 54, 55, 56, 57, 58, 59, 60, 61, 62, 63, 64, 65, 66, 40, 41, 42, 43, 44, 45, 46, 47, 48] (by decide +kernel) (by decide +kernel)
set_option maxRecDepth 20000 in
theorem gX2_about_X2_isHeldBack : GoodIn wsX2_about (wsV RX2 79 RX2 yX2_isHeldBack wsX2_isHeldBack) := goodIn_app (goodIn_of _ (by decide +kernel)) ggX2_about_X2_isHeldBack
set_option maxRecDepth 20000 in
theorem ggX2_about_X2_asNumber : GoodIn wsX2_about wsX2_asNumber := goodIn_r _ [25] (by decide +kernel) (by decide +kernel)
set_option maxRecDepth 20000 in
theorem gX2_about_X2_asNumber : GoodIn wsX2_about (va_wsS RX2 82 yX2_asNumber wsX2_asNumber) := goodIn_app (goodIn_of _ (by decide +kernel)) ggX2_about_X2_asNumber
set_option maxRecDepth 20000 in
theorem ggX2_about_X0_numberOf : GoodIn wsX2_about wsX0_numberOf := goodIn_r _ [29, 22, 30, 31, 32, 33, 34, 35, 36, 37, 20, 38, 39, 24, 4, 25, 49, 50, 51, 52, 53, 54, 55, 56, 57, 58, 59, 60, 61, 62, 63, 64, 65, 66] (by decide +kernel) (by decide +kernel)
set_option maxRecDepth 20000 in
theorem gX2_about_X0_numberOf : GoodIn wsX2_about (wsV RX2 86 RX0 yX0_numberOf wsX0_numberOf) := goodIn_app (goodIn_of _ (by decide +kernel)) ggX2_about_X0_numberOf
theorem dX2_about_0 : decode cX2_about 0 = .ok (.aload_n 0, 1) := by decide +kernel
theorem dX2_about_1 : decode cX2_about 1 = .ok (.iload_n 1, 1) := by decide +kernel
theorem dX2_about_2 : decode cX2_about 2 = .ok (.invokevirtual 50, 3) := by decide +kernel
theorem dX2_about_5 : decode cX2_about 5 = .ok (.astore_n 3, 1) := by decide +kernel
theorem dX2_about_6 : decode cX2_about 6 = .ok (.aload_n 3, 1) := by decide +kernel
theorem dX2_about_7 : decode cX2_about 7 = .ok (.ifnull 13, 3) := by decide +kernel
theorem dX2_about_10 : decode cX2_about 10 = .ok (.iload_n 2, 1) := by decide +kernel
theorem dX2_about_11 : decode cX2_about 11 = .ok (.iconst 0, 1) := by decide +kernel
theorem dX2_about_12 : decode cX2_about 12 = .ok (.bipush 7, 2) := by decide +kernel
theorem dX2_about_14 : decode cX2_about 14 = .ok (.invokestatic 46, 3) := by decide +kernel
theorem dX2_about_17 : decode cX2_about 17 = .ok (.ifCond .ne 6, 3) := by decide +kernel
theorem dX2_about_20 : decode cX2_about 20 = .ok (.bipush (-2), 2) := by decide +kernel
theorem dX2_about_22 : decode cX2_about 22 = .ok (.ireturn, 1) := by decide +kernel
theorem dX2_about_23 : decode cX2_about 23 = .ok (.iload_n 2, 1) := by decide +kernel
theorem dX2_about_24 : decode cX2_about 24 = .ok (.iconst 4, 1) := by decide +kernel
theorem dX2_about_25 : decode cX2_about 25 = .ok (.if_icmp .ne 14, 3) := by decide +kernel
theorem dX2_about_28 : decode cX2_about 28 = .ok (.aload_n 0, 1) := by decide +kernel
theorem dX2_about_29 : decode cX2_about 29 = .ok (.aload_n 3, 1) := by decide +kernel
theorem dX2_about_30 : decode cX2_about 30 = .ok (.invokevirtual 79, 3) := by decide +kernel
theorem dX2_about_33 : decode cX2_about 33 = .ok (.invokestatic 82, 3) := by decide +kernel
theorem dX2_about_36 : decode cX2_about 36 = .ok (.goto 8, 3) := by decide +kernel
theorem dX2_about_39 : decode cX2_about 39 = .ok (.aload_n 3, 1) := by decide +kernel
theorem dX2_about_40 : decode cX2_about 40 = .ok (.iload_n 2, 1) := by decide +kernel
theorem dX2_about_41 : decode cX2_about 41 = .ok (.invokevirtual 86, 3) := by decide +kernel
theorem dX2_about_44 : decode cX2_about 44 = .ok (.ireturn, 1) := by decide +kernel
set_option maxRecDepth 20000 in
theorem ggX2_frozen_X2_checkAt : GoodIn wsX2_frozen wsX2_checkAt := goodIn_r _ [6, 7, 8, 9, 10, 5, 11, 36, 37, 38, 39, 40, 41, 42, 43, 44] (by decide +kernel) (by decide +kernel)
set_option maxRecDepth 20000 in
theorem gX2_frozen_X2_checkAt : GoodIn wsX2_frozen (wsV RX2 50 RX2 yX2_checkAt wsX2_checkAt) := goodIn_app (goodIn_of _ (by decide +kernel)) ggX2_frozen_X2_checkAt
set_option maxRecDepth 20000 in
theorem ggX2_frozen_X2_isWithin : GoodIn wsX2_frozen wsX2_isWithin := goodIn_r _ [11] (by decide +kernel) (by decide +kernel)
set_option maxRecDepth 20000 in
theorem gX2_frozen_X2_isWithin : GoodIn wsX2_frozen (va_wsS RX2 46 yX2_isWithin wsX2_isWithin) := goodIn_app (goodIn_of _ (by decide +kernel)) ggX2_frozen_X2_isWithin
set_option maxRecDepth 20000 in
theorem ggX2_frozen_X0_isFrozen : GoodIn wsX2_frozen wsX0_isFrozen := goodIn_r _ [16, 17, 18, 19, 20, 21, 22, 23, 24, 25, 26, 27, 28, 29, 30, 31, 32, 33, 34, 35] (by decide +kernel) (by decide +kernel)
set_option maxRecDepth 20000 in
theorem gX2_frozen_X0_isFrozen : GoodIn wsX2_frozen (wsV RX2 90 RX0 yX0_isFrozen wsX0_isFrozen) := goodIn_app (goodIn_of _ (by decide +kernel)) ggX2_frozen_X0_isFrozen
theorem dX2_frozen_0 : decode cX2_frozen 0 = .ok (.aload_n 0, 1) := by decide +kernel
theorem dX2_frozen_1 : decode cX2_frozen 1 = .ok (.iload_n 1, 1) := by decide +kernel
theorem dX2_frozen_2 : decode cX2_frozen 2 = .ok (.invokevirtual 50, 3) := by decide +kernel
theorem dX2_frozen_5 : decode cX2_frozen 5 = .ok (.astore_n 3, 1) := by decide +kernel
theorem dX2_frozen_6 : decode cX2_frozen 6 = .ok (.aload_n 3, 1) := by decide +kernel
theorem dX2_frozen_7 : decode cX2_frozen 7 = .ok (.ifnull 19, 3) := by decide +kernel
theorem dX2_frozen_10 : decode cX2_frozen 10 = .ok (.iload_n 2, 1) := by decide +kernel
theorem dX2_frozen_11 : decode cX2_frozen 11 = .ok (.iconst 0, 1) := by decide +kernel
theorem dX2_frozen_12 : decode cX2_frozen 12 = .ok (.iconst 3, 1) := by decide +kernel
theorem dX2_frozen_13 : decode cX2_frozen 13 = .ok (.invokestatic 46, 3) := by decide +kernel
theorem dX2_frozen_16 : decode cX2_frozen 16 = .ok (.ifCond .eq 10, 3) := by decide +kernel
theorem dX2_frozen_19 : decode cX2_frozen 19 = .ok (.aload_n 3, 1) := by decide +kernel
theorem dX2_frozen_20 : decode cX2_frozen 20 = .ok (.invokevirtual 90, 3) := by decide +kernel
theorem dX2_frozen_23 : decode cX2_frozen 23 = .ok (.ifCond .ne 7, 3) := by decide +kernel
theorem dX2_frozen_26 : decode cX2_frozen 26 = .ok (.sipush (-2000), 3) := by decide +kernel
theorem dX2_frozen_29 : decode cX2_frozen 29 = .ok (.ireturn, 1) := by decide +kernel
theorem dX2_frozen_30 : decode cX2_frozen 30 = .ok (.aload_n 3, 1) := by decide +kernel
theorem dX2_frozen_31 : decode cX2_frozen 31 = .ok (.getfield 94, 3) := by decide +kernel
theorem dX2_frozen_34 : decode cX2_frozen 34 = .ok (.iload_n 2, 1) := by decide +kernel
theorem dX2_frozen_35 : decode cX2_frozen 35 = .ok (.iaload, 1) := by decide +kernel
theorem dX2_frozen_36 : decode cX2_frozen 36 = .ok (.ireturn, 1) := by decide +kernel
set_option maxRecDepth 20000 in
theorem ggX2_frozenAt_X2_checkAt : GoodIn wsX2_frozenAt wsX2_checkAt := goodIn_r _ [6, 7, 8, 9, 10, 5, 11, 30, 31, 32, 33, 34, 35, 36, 37, 38] (by decide +kernel) (by decide +kernel)
set_option maxRecDepth 20000 in
theorem gX2_frozenAt_X2_checkAt : GoodIn wsX2_frozenAt (wsV RX2 50 RX2 yX2_checkAt wsX2_checkAt) := goodIn_app (goodIn_of _ (by decide +kernel)) ggX2_frozenAt_X2_checkAt
theorem dX2_frozenAt_0 : decode cX2_frozenAt 0 = .ok (.aload_n 0, 1) := by decide +kernel
theorem dX2_frozenAt_1 : decode cX2_frozenAt 1 = .ok (.iload_n 1, 1) := by decide +kernel
theorem dX2_frozenAt_2 : decode cX2_frozenAt 2 = .ok (.invokevirtual 50, 3) := by decide +kernel
theorem dX2_frozenAt_5 : decode cX2_frozenAt 5 = .ok (.astore_n 2, 1) := by decide +kernel
theorem dX2_frozenAt_6 : decode cX2_frozenAt 6 = .ok (.aload_n 2, 1) := by decide +kernel
theorem dX2_frozenAt_7 : decode cX2_frozenAt 7 = .ok (.ifnonnull 8, 3) := by decide +kernel
theorem dX2_frozenAt_10 : decode cX2_frozenAt 10 = .ok (.bipush (-2), 2) := by decide +kernel
theorem dX2_frozenAt_12 : decode cX2_frozenAt 12 = .ok (.goto 7, 3) := by decide +kernel
theorem dX2_frozenAt_15 : decode cX2_frozenAt 15 = .ok (.aload_n 2, 1) := by decide +kernel
theorem dX2_frozenAt_16 : decode cX2_frozenAt 16 = .ok (.getfield 97, 3) := by decide +kernel
theorem dX2_frozenAt_19 : decode cX2_frozenAt 19 = .ok (.ireturn, 1) := by decide +kernel
set_option maxRecDepth 20000 in
theorem ggX2_lamp_X2_checkAt : GoodIn wsX2_lamp wsX2_checkAt := goodIn_r _ [8, 1, 9, 10, 11, 7, 12, 13, 14, 15, 16, 17, 18, 19, 20, 21] (by decide +kernel) (by decide +kernel)
set_option maxRecDepth 20000 in
theorem gX2_lamp_X2_checkAt : GoodIn wsX2_lamp (wsV RX2 50 RX2 yX2_checkAt wsX2_checkAt) := goodIn_app (goodIn_of _ (by decide +kernel)) ggX2_lamp_X2_checkAt
theorem dX2_lamp_0 : decode cX2_lamp 0 = .ok (.iconst 0, 1) := by decide +kernel
theorem dX2_lamp_1 : decode cX2_lamp 1 = .ok (.istore_n 1, 1) := by decide +kernel
theorem dX2_lamp_2 : decode cX2_lamp 2 = .ok (.iload_n 1, 1) := by decide +kernel
theorem dX2_lamp_3 : decode cX2_lamp 3 = .ok (.aload_n 0, 1) := by decide +kernel
theorem dX2_lamp_4 : decode cX2_lamp 4 = .ok (.getfield 15, 3) := by decide +kernel
theorem dX2_lamp_7 : decode cX2_lamp 7 = .ok (.if_icmp .ge 36, 3) := by decide +kernel
theorem dX2_lamp_10 : decode cX2_lamp 10 = .ok (.aload_n 0, 1) := by decide +kernel
theorem dX2_lamp_11 : decode cX2_lamp 11 = .ok (.iload_n 1, 1) := by decide +kernel
theorem dX2_lamp_12 : decode cX2_lamp 12 = .ok (.invokevirtual 50, 3) := by decide +kernel
theorem dX2_lamp_15 : decode cX2_lamp 15 = .ok (.astore_n 2, 1) := by decide +kernel
theorem dX2_lamp_16 : decode cX2_lamp 16 = .ok (.aload_n 2, 1) := by decide +kernel
theorem dX2_lamp_17 : decode cX2_lamp 17 = .ok (.ifnull 20, 3) := by decide +kernel
theorem dX2_lamp_20 : decode cX2_lamp 20 = .ok (.aload_n 2, 1) := by decide +kernel
theorem dX2_lamp_21 : decode cX2_lamp 21 = .ok (.getfield 100, 3) := by decide +kernel
theorem dX2_lamp_24 : decode cX2_lamp 24 = .ok (.ifCond .eq 13, 3) := by decide +kernel
theorem dX2_lamp_27 : decode cX2_lamp 27 = .ok (.aload_n 2, 1) := by decide +kernel
theorem dX2_lamp_28 : decode cX2_lamp 28 = .ok (.getfield 103, 3) := by decide +kernel
theorem dX2_lamp_31 : decode cX2_lamp 31 = .ok (.iconst 2, 1) := by decide +kernel
theorem dX2_lamp_32 : decode cX2_lamp 32 = .ok (.if_icmp .ne 5, 3) := by decide +kernel
theorem dX2_lamp_35 : decode cX2_lamp 35 = .ok (.iconst 1, 1) := by decide +kernel
theorem dX2_lamp_36 : decode cX2_lamp 36 = .ok (.ireturn, 1) := by decide +kernel
theorem dX2_lamp_37 : decode cX2_lamp 37 = .ok (.iinc 1 1, 3) := by decide +kernel
theorem dX2_lamp_40 : decode cX2_lamp 40 = .ok (.goto (-38), 3) := by decide +kernel
theorem dX2_lamp_43 : decode cX2_lamp 43 = .ok (.iconst 0, 1) := by decide +kernel
theorem dX2_lamp_44 : decode cX2_lamp 44 = .ok (.ireturn, 1) := by decide +kernel
set_option maxRecDepth 20000 in
theorem ggX2_clear_X2_checkAt : GoodIn wsX2_clear wsX2_checkAt := goodIn_r _ [7, 2, 8, 9, 10, 6, 11, 32, 33, 34, 35, 36, 37, 38, 39, 40] (by decide +kernel) (by decide +kernel)
set_option maxRecDepth 20000 in
theorem gX2_clear_X2_checkAt : GoodIn wsX2_clear (wsV RX2 50 RX2 yX2_checkAt wsX2_checkAt) := goodIn_app (goodIn_of _ (by decide +kernel)) ggX2_clear_X2_checkAt
set_option maxRecDepth 20000 in
theorem ggX2_clear_X0_clearCode : GoodIn wsX2_clear wsX0_clearCode := goodIn_r _ [16, 17, 18, 19, 20, 21, 22, 23, 24, 15, 25, 26, 27, 28, 29, 30, 31, 41, 42, 43, 44, 45, 46, 47, 48, 49, 50, 51, 52, 53, 54, 55, 56, 57, 58] (by decide +kernel) (by decide +kernel)
set_option maxRecDepth 20000 in
theorem gX2_clear_X0_clearCode : GoodIn wsX2_clear (wsV RX2 106 RX0 yX0_clearCode wsX0_clearCode) := goodIn_app (goodIn_of _ (by decide +kernel)) ggX2_clear_X0_clearCode
theorem dX2_clear_0 : decode cX2_clear 0 = .ok (.aload_n 0, 1) := by decide +kernel
theorem dX2_clear_1 : decode cX2_clear 1 = .ok (.getfield 32, 3) := by decide +kernel
theorem dX2_clear_4 : decode cX2_clear 4 = .ok (.ifCond .eq 6, 3) := by decide +kernel
theorem dX2_clear_7 : decode cX2_clear 7 = .ok (.bipush (-3), 2) := by decide +kernel
theorem dX2_clear_9 : decode cX2_clear 9 = .ok (.ireturn, 1) := by decide +kernel
theorem dX2_clear_10 : decode cX2_clear 10 = .ok (.iconst 0, 1) := by decide +kernel
theorem dX2_clear_11 : decode cX2_clear 11 = .ok (.istore_n 1, 1) := by decide +kernel
theorem dX2_clear_12 : decode cX2_clear 12 = .ok (.iconst 0, 1) := by decide +kernel
theorem dX2_clear_13 : decode cX2_clear 13 = .ok (.istore_n 2, 1) := by decide +kernel
theorem dX2_clear_14 : decode cX2_clear 14 = .ok (.iload_n 2, 1) := by decide +kernel
theorem dX2_clear_15 : decode cX2_clear 15 = .ok (.aload_n 0, 1) := by decide +kernel
theorem dX2_clear_16 : decode cX2_clear 16 = .ok (.getfield 15, 3) := by decide +kernel
theorem dX2_clear_19 : decode cX2_clear 19 = .ok (.if_icmp .ge 29, 3) := by decide +kernel
theorem dX2_clear_22 : decode cX2_clear 22 = .ok (.aload_n 0, 1) := by decide +kernel
theorem dX2_clear_23 : decode cX2_clear 23 = .ok (.iload_n 2, 1) := by decide +kernel
theorem dX2_clear_24 : decode cX2_clear 24 = .ok (.invokevirtual 50, 3) := by decide +kernel
theorem dX2_clear_27 : decode cX2_clear 27 = .ok (.astore_n 3, 1) := by decide +kernel
theorem dX2_clear_28 : decode cX2_clear 28 = .ok (.aload_n 3, 1) := by decide +kernel
theorem dX2_clear_29 : decode cX2_clear 29 = .ok (.ifnull 13, 3) := by decide +kernel
theorem dX2_clear_32 : decode cX2_clear 32 = .ok (.aload_n 3, 1) := by decide +kernel
theorem dX2_clear_33 : decode cX2_clear 33 = .ok (.invokevirtual 106, 3) := by decide +kernel
theorem dX2_clear_36 : decode cX2_clear 36 = .ok (.ifCond .eq 6, 3) := by decide +kernel
theorem dX2_clear_39 : decode cX2_clear 39 = .ok (.iinc 1 1, 3) := by decide +kernel
theorem dX2_clear_42 : decode cX2_clear 42 = .ok (.iinc 2 1, 3) := by decide +kernel
theorem dX2_clear_45 : decode cX2_clear 45 = .ok (.goto (-31), 3) := by decide +kernel
theorem dX2_clear_48 : decode cX2_clear 48 = .ok (.iload_n 1, 1) := by decide +kernel
theorem dX2_clear_49 : decode cX2_clear 49 = .ok (.ireturn, 1) := by decide +kernel
set_option maxRecDepth 20000 in
theorem ggX2_cause_X2_isBitsBelow : GoodIn wsX2_cause wsX2_isBitsBelow := goodIn_r _ [6] (by decide +kernel) (by decide +kernel)
set_option maxRecDepth 20000 in
theorem gX2_cause_X2_isBitsBelow : GoodIn wsX2_cause (va_wsS RX2 109 yX2_isBitsBelow wsX2_isBitsBelow) := goodIn_app (goodIn_of _ (by decide +kernel)) ggX2_cause_X2_isBitsBelow
set_option maxRecDepth 20000 in
theorem ggX2_cause_X2_isWithin : GoodIn wsX2_cause wsX2_isWithin := goodIn_r _ [9] (by decide +kernel) (by decide +kernel)
set_option maxRecDepth 20000 in
theorem gX2_cause_X2_isWithin : GoodIn wsX2_cause (va_wsS RX2 46 yX2_isWithin wsX2_isWithin) := goodIn_app (goodIn_of _ (by decide +kernel)) ggX2_cause_X2_isWithin
set_option maxRecDepth 20000 in
theorem ggX2_cause_X1_addCause : GoodIn wsX2_cause wsX1_addCause := goodIn_r _ [14, 15, 16, 17, 18, 28, 29, 30, 31, 32, 33, 34, 35, 36, 37, 38, 39, 40] (by decide +kernel) (by decide +kernel)
set_option maxRecDepth 20000 in
theorem gX2_cause_X1_addCause : GoodIn wsX2_cause (wsV RX2 113 RX1 yX1_addCause wsX1_addCause) := goodIn_app (goodIn_of _ (by decide +kernel)) ggX2_cause_X1_addCause
theorem dX2_cause_0 : decode cX2_cause 0 = .ok (.iload_n 1, 1) := by decide +kernel
theorem dX2_cause_1 : decode cX2_cause 1 = .ok (.ifCond .eq 14, 3) := by decide +kernel
theorem dX2_cause_4 : decode cX2_cause 4 = .ok (.iload_n 1, 1) := by decide +kernel
theorem dX2_cause_5 : decode cX2_cause 5 = .ok (.aload_n 0, 1) := by decide +kernel
theorem dX2_cause_6 : decode cX2_cause 6 = .ok (.getfield 15, 3) := by decide +kernel
theorem dX2_cause_9 : decode cX2_cause 9 = .ok (.invokestatic 109, 3) := by decide +kernel
theorem dX2_cause_12 : decode cX2_cause 12 = .ok (.ifCond .ne 6, 3) := by decide +kernel
theorem dX2_cause_15 : decode cX2_cause 15 = .ok (.bipush (-2), 2) := by decide +kernel
theorem dX2_cause_17 : decode cX2_cause 17 = .ok (.ireturn, 1) := by decide +kernel
theorem dX2_cause_18 : decode cX2_cause 18 = .ok (.iload_n 2, 1) := by decide +kernel
theorem dX2_cause_19 : decode cX2_cause 19 = .ok (.iconst 1, 1) := by decide +kernel
theorem dX2_cause_20 : decode cX2_cause 20 = .ok (.sipush 1000, 3) := by decide +kernel
theorem dX2_cause_23 : decode cX2_cause 23 = .ok (.invokestatic 46, 3) := by decide +kernel
theorem dX2_cause_26 : decode cX2_cause 26 = .ok (.ifCond .ne 6, 3) := by decide +kernel
theorem dX2_cause_29 : decode cX2_cause 29 = .ok (.bipush (-2), 2) := by decide +kernel
theorem dX2_cause_31 : decode cX2_cause 31 = .ok (.ireturn, 1) := by decide +kernel
theorem dX2_cause_32 : decode cX2_cause 32 = .ok (.aload_n 0, 1) := by decide +kernel
theorem dX2_cause_33 : decode cX2_cause 33 = .ok (.getfield 42, 3) := by decide +kernel
theorem dX2_cause_36 : decode cX2_cause 36 = .ok (.iload_n 1, 1) := by decide +kernel
theorem dX2_cause_37 : decode cX2_cause 37 = .ok (.iload_n 2, 1) := by decide +kernel
theorem dX2_cause_38 : decode cX2_cause 38 = .ok (.invokevirtual 113, 3) := by decide +kernel
theorem dX2_cause_41 : decode cX2_cause 41 = .ok (.ireturn, 1) := by decide +kernel
set_option maxRecDepth 20000 in
theorem ggX2_explains_X2_isBitsBelow : GoodIn wsX2_explains wsX2_isBitsBelow := goodIn_r _ [6] (by decide +kernel) (by decide +kernel)
set_option maxRecDepth 20000 in
theorem gX2_explains_X2_isBitsBelow : GoodIn wsX2_explains (va_wsS RX2 109 yX2_isBitsBelow wsX2_isBitsBelow) := goodIn_app (goodIn_of _ (by decide +kernel)) ggX2_explains_X2_isBitsBelow
set_option maxRecDepth 20000 in
theorem ggX2_explains_X2_ranBits : GoodIn wsX2_explains wsX2_ranBits := goodIn_r _ [10, 11, 12, 13, 14, 15, 5, 16, 17, 18, 19, 20, 35, 36, 37, 38, 39, 40, 41, 42, 43, 57, 58, 59, 60, 61, 62, 63, 64, 65, 66, 67, 68, 69, 70, 71, 72, 73, 74] (by decide +kernel) (by decide +kernel)
set_option maxRecDepth 20000 in
theorem gX2_explains_X2_ranBits : GoodIn wsX2_explains (wsV RX2 120 RX2 yX2_ranBits wsX2_ranBits) := goodIn_app (goodIn_of _ (by decide +kernel)) ggX2_explains_X2_ranBits
set_option maxRecDepth 20000 in
theorem ggX2_explains_X2_codeBits : GoodIn wsX2_explains wsX2_codeBits := goodIn_r _ [24, 11, 25, 13, 14, 15, 5, 16, 17, 18, 19, 20, 35, 36, 37, 38, 39, 40, 41, 42, 43, 57, 58, 59, 60, 61, 62, 63, 64, 65, 66, 67, 68, 69, 70, 71, 72, 73, 74] (by decide +kernel) (by decide +kernel)
set_option maxRecDepth 20000 in
theorem gX2_explains_X2_codeBits : GoodIn wsX2_explains (wsV RX2 123 RX2 yX2_codeBits wsX2_codeBits) := goodIn_app (goodIn_of _ (by decide +kernel)) ggX2_explains_X2_codeBits
set_option maxRecDepth 20000 in
theorem ggX2_explains_X1_isExplainedBy : GoodIn wsX2_explains wsX1_isExplainedBy := goodIn_r _ [30, 31, 44, 45, 46, 47, 48, 49, 50, 51, 52, 53, 54, 55, 56] (by decide +kernel) (by decide +kernel)
set_option maxRecDepth 20000 in
theorem gX2_explains_X1_isExplainedBy : GoodIn wsX2_explains (wsV RX2 126 RX1 yX1_isExplainedBy wsX1_isExplainedBy) := goodIn_app (goodIn_of _ (by decide +kernel)) ggX2_explains_X1_isExplainedBy
set_option maxRecDepth 20000 in
theorem ggX2_explains_X2_asNumber : GoodIn wsX2_explains wsX2_asNumber := goodIn_r _ [34] (by decide +kernel) (by decide +kernel)
set_option maxRecDepth 20000 in
theorem gX2_explains_X2_asNumber : GoodIn wsX2_explains (va_wsS RX2 82 yX2_asNumber wsX2_asNumber) := goodIn_app (goodIn_of _ (by decide +kernel)) ggX2_explains_X2_asNumber
theorem dX2_explains_0 : decode cX2_explains 0 = .ok (.iload_n 1, 1) := by decide +kernel
theorem dX2_explains_1 : decode cX2_explains 1 = .ok (.aload_n 0, 1) := by decide +kernel
theorem dX2_explains_2 : decode cX2_explains 2 = .ok (.getfield 42, 3) := by decide +kernel
theorem dX2_explains_5 : decode cX2_explains 5 = .ok (.getfield 117, 3) := by decide +kernel
theorem dX2_explains_8 : decode cX2_explains 8 = .ok (.invokestatic 109, 3) := by decide +kernel
theorem dX2_explains_11 : decode cX2_explains 11 = .ok (.ifCond .ne 6, 3) := by decide +kernel
theorem dX2_explains_14 : decode cX2_explains 14 = .ok (.bipush (-2), 2) := by decide +kernel
theorem dX2_explains_16 : decode cX2_explains 16 = .ok (.ireturn, 1) := by decide +kernel
theorem dX2_explains_17 : decode cX2_explains 17 = .ok (.aload_n 0, 1) := by decide +kernel
theorem dX2_explains_18 : decode cX2_explains 18 = .ok (.getfield 42, 3) := by decide +kernel
theorem dX2_explains_21 : decode cX2_explains 21 = .ok (.iload_n 1, 1) := by decide +kernel
theorem dX2_explains_22 : decode cX2_explains 22 = .ok (.aload_n 0, 1) := by decide +kernel
theorem dX2_explains_23 : decode cX2_explains 23 = .ok (.invokevirtual 120, 3) := by decide +kernel
theorem dX2_explains_26 : decode cX2_explains 26 = .ok (.aload_n 0, 1) := by decide +kernel
theorem dX2_explains_27 : decode cX2_explains 27 = .ok (.iconst 2, 1) := by decide +kernel
theorem dX2_explains_28 : decode cX2_explains 28 = .ok (.invokevirtual 123, 3) := by decide +kernel
theorem dX2_explains_31 : decode cX2_explains 31 = .ok (.invokevirtual 126, 3) := by decide +kernel
theorem dX2_explains_34 : decode cX2_explains 34 = .ok (.invokestatic 82, 3) := by decide +kernel
theorem dX2_explains_37 : decode cX2_explains 37 = .ok (.ireturn, 1) := by decide +kernel
set_option maxRecDepth 20000 in
theorem ggX2_least_X2_lookAtCodes : GoodIn wsX2_least wsX2_lookAtCodes := goodIn_r _ [7, 1, 8, 9, 10, 6, 11, 12, 13, 14, 15, 16, 17, 18, 19, 20, 21, 22, 23, 24, 25, 26, 27, 28, 29, 30, 31, 32, 33, 34, 35, 36, 37, 38, 39, 40, 41, 42, 43, 44, 45, 46, 47, 48, 49, 50, 51, 52, 53, 54, 55, 56, 57, 58, 59, 60, 61, 62, 63, 77, 78, 79, 80, 81, 82, 83, 84, 85, 86, 87, 88, 89, 90, 91, 92, 93, 94, 64, 65, 66, 67, 68, 69, 70, 71, 72, 73, 74, 75, 76] (by decide +kernel) (by decide +kernel)
set_option maxRecDepth 20000 in
theorem gX2_least_X2_lookAtCodes : GoodIn wsX2_least (wsV RX2 129 RX2 yX2_lookAtCodes wsX2_lookAtCodes) := goodIn_app (goodIn_of _ (by decide +kernel)) ggX2_least_X2_lookAtCodes
theorem dX2_least_0 : decode cX2_least 0 = .ok (.aload_n 0, 1) := by decide +kernel
theorem dX2_least_1 : decode cX2_least 1 = .ok (.invokevirtual 129, 3) := by decide +kernel
theorem dX2_least_4 : decode cX2_least 4 = .ok (.aload_n 0, 1) := by decide +kernel
theorem dX2_least_5 : decode cX2_least 5 = .ok (.getfield 42, 3) := by decide +kernel
theorem dX2_least_8 : decode cX2_least 8 = .ok (.getfield 132, 3) := by decide +kernel
theorem dX2_least_11 : decode cX2_least 11 = .ok (.ireturn, 1) := by decide +kernel
set_option maxRecDepth 20000 in
theorem ggX2_leastAt_X2_lookAtCodes : GoodIn wsX2_leastAt wsX2_lookAtCodes := goodIn_r _ [8, 1, 9, 10, 11, 7, 12, 13, 14, 15, 16, 17, 18, 19, 20, 21, 22, 23, 24, 25, 26, 27, 28, 29, 30, 31, 32, 33, 34, 35, 36, 37, 38, 39, 40, 41, 42, 43, 44, 45, 46, 47, 48, 49, 50, 51, 52, 53, 54, 55, 56, 57, 58, 59, 60, 61, 62, 63, 64, 78, 79, 80, 81, 82, 83, 84, 85, 86, 87, 88, 89, 90, 91, 92, 93, 94, 95, 65, 66, 67, 68, 69, 70, 71, 72, 73, 74, 75, 76, 77] (by decide +kernel) (by decide +kernel)
set_option maxRecDepth 20000 in
theorem gX2_leastAt_X2_lookAtCodes : GoodIn wsX2_leastAt (wsV RX2 129 RX2 yX2_lookAtCodes wsX2_lookAtCodes) := goodIn_app (goodIn_of _ (by decide +kernel)) ggX2_leastAt_X2_lookAtCodes
set_option maxRecDepth 20000 in
theorem ggX2_leastAt_X2_isWithin : GoodIn wsX2_leastAt wsX2_isWithin := goodIn_r _ [22] (by decide +kernel) (by decide +kernel)
set_option maxRecDepth 20000 in
theorem gX2_leastAt_X2_isWithin : GoodIn wsX2_leastAt (va_wsS RX2 46 yX2_isWithin wsX2_isWithin) := goodIn_app (goodIn_of _ (by decide +kernel)) ggX2_leastAt_X2_isWithin
theorem dX2_leastAt_0 : decode cX2_leastAt 0 = .ok (.aload_n 0, 1) := by decide +kernel
theorem dX2_leastAt_1 : decode cX2_leastAt 1 = .ok (.invokevirtual 129, 3) := by decide +kernel
theorem dX2_leastAt_4 : decode cX2_leastAt 4 = .ok (.iload_n 1, 1) := by decide +kernel
theorem dX2_leastAt_5 : decode cX2_leastAt 5 = .ok (.iconst 0, 1) := by decide +kernel
theorem dX2_leastAt_6 : decode cX2_leastAt 6 = .ok (.aload_n 0, 1) := by decide +kernel
theorem dX2_leastAt_7 : decode cX2_leastAt 7 = .ok (.getfield 42, 3) := by decide +kernel
theorem dX2_leastAt_10 : decode cX2_leastAt 10 = .ok (.getfield 132, 3) := by decide +kernel
theorem dX2_leastAt_13 : decode cX2_leastAt 13 = .ok (.iconst 1, 1) := by decide +kernel
theorem dX2_leastAt_14 : decode cX2_leastAt 14 = .ok (.isub, 1) := by decide +kernel
theorem dX2_leastAt_15 : decode cX2_leastAt 15 = .ok (.invokestatic 46, 3) := by decide +kernel
theorem dX2_leastAt_18 : decode cX2_leastAt 18 = .ok (.ifCond .eq 15, 3) := by decide +kernel
theorem dX2_leastAt_21 : decode cX2_leastAt 21 = .ok (.aload_n 0, 1) := by decide +kernel
theorem dX2_leastAt_22 : decode cX2_leastAt 22 = .ok (.getfield 42, 3) := by decide +kernel
theorem dX2_leastAt_25 : decode cX2_leastAt 25 = .ok (.getfield 135, 3) := by decide +kernel
theorem dX2_leastAt_28 : decode cX2_leastAt 28 = .ok (.iload_n 1, 1) := by decide +kernel
theorem dX2_leastAt_29 : decode cX2_leastAt 29 = .ok (.iaload, 1) := by decide +kernel
theorem dX2_leastAt_30 : decode cX2_leastAt 30 = .ok (.goto 4, 3) := by decide +kernel
theorem dX2_leastAt_33 : decode cX2_leastAt 33 = .ok (.iconst (-1), 1) := by decide +kernel
theorem dX2_leastAt_34 : decode cX2_leastAt 34 = .ok (.ireturn, 1) := by decide +kernel
set_option maxRecDepth 20000 in
theorem ggX2_plan_X2_lookAtCodes : GoodIn wsX2_plan wsX2_lookAtCodes := goodIn_r _ [6, 1, 7, 8, 9, 5, 10, 11, 12, 13, 14, 15, 16, 17, 18, 19, 20, 21, 22, 23, 24, 25, 26, 27, 28, 29, 30, 31, 32, 33, 34, 35, 36, 37, 38, 39, 40, 41, 42, 43, 44, 45, 46, 47, 48, 49, 50, 51, 52, 53, 78, 79, 80, 81, 82, 83, 84, 85, 86, 87, 88, 89, 90, 91, 92, 93, 94, 95, 96, 97, 98, 99, 100, 101, 102, 103, 104, 105, 106, 107, 108, 109, 110, 111, 112, 113, 114, 115, 116, 117] (by decide +kernel) (by decide +kernel)
set_option maxRecDepth 20000 in
theorem gX2_plan_X2_lookAtCodes : GoodIn wsX2_plan (wsV RX2 129 RX2 yX2_lookAtCodes wsX2_lookAtCodes) := goodIn_app (goodIn_of _ (by decide +kernel)) ggX2_plan_X2_lookAtCodes
set_option maxRecDepth 20000 in
theorem ggX2_plan_X1_planSum : GoodIn wsX2_plan wsX1_planSum := goodIn_r _ [57, 40, 58, 59, 60, 61, 29, 62, 35, 33, 63, 64, 65, 66, 67, 41, 68, 69, 70, 71, 72, 73, 74, 75, 76, 77, 42, 43, 44, 45, 46, 47, 48, 105, 106, 107, 108, 109, 110, 111, 112, 113, 114, 115, 116, 117] (by decide +kernel) (by decide +kernel)
set_option maxRecDepth 20000 in
theorem gX2_plan_X1_planSum : GoodIn wsX2_plan (wsV RX2 138 RX1 yX1_planSum wsX1_planSum) := goodIn_app (goodIn_of _ (by decide +kernel)) ggX2_plan_X1_planSum
theorem dX2_plan_0 : decode cX2_plan 0 = .ok (.aload_n 0, 1) := by decide +kernel
theorem dX2_plan_1 : decode cX2_plan 1 = .ok (.invokevirtual 129, 3) := by decide +kernel
theorem dX2_plan_4 : decode cX2_plan 4 = .ok (.aload_n 0, 1) := by decide +kernel
theorem dX2_plan_5 : decode cX2_plan 5 = .ok (.getfield 42, 3) := by decide +kernel
theorem dX2_plan_8 : decode cX2_plan 8 = .ok (.invokevirtual 138, 3) := by decide +kernel
end
section
theorem dX2_plan_11 : decode cX2_plan 11 = .ok (.ireturn, 1) := by decide +kernel
set_option maxRecDepth 20000 in
theorem ggX2_test_X2_lookAtCodes : GoodIn wsX2_test wsX2_lookAtCodes := goodIn_r _ [6, 1, 7, 8, 9, 5, 10, 11, 12, 13, 14, 15, 16, 17, 18, 19, 20, 21, 22, 23, 24, 25, 26, 27, 28, 29, 30, 31, 32, 33, 34, 35, 36, 37, 38, 39, 40, 41, 42, 43, 44, 45, 46, 47, 48, 49, 50, 51, 52, 53, 78, 79, 80, 81, 82, 83, 84, 85, 86, 87, 88, 89, 90, 91, 92, 93, 94, 95, 96, 97, 98, 99, 100, 101, 102, 103, 104, 105, 106, 107, 108, 109, 110, 111, 112, 113, 114, 115, 116, 117] (by decide +kernel) (by decide +kernel)
set_option maxRecDepth 20000 in
theorem gX2_test_X2_lookAtCodes : GoodIn wsX2_test (wsV RX2 129 RX2 yX2_lookAtCodes wsX2_lookAtCodes) := goodIn_app (goodIn_of _ (by decide +kernel)) ggX2_test_X2_lookAtCodes
set_option maxRecDepth 20000 in
theorem ggX2_test_X1_planTest : GoodIn wsX2_test wsX1_planTest := goodIn_r _ [57, 40, 58, 59, 60, 61, 29, 62, 35, 33, 63, 64, 65, 66, 67, 41, 68, 69, 70, 71, 72, 73, 74, 75, 76, 77, 42, 43, 44, 45, 46, 47, 48, 105, 106, 107, 108, 109, 110, 111, 112, 113, 114, 115, 116, 117] (by decide +kernel) (by decide +kernel)
set_option maxRecDepth 20000 in
theorem gX2_test_X1_planTest : GoodIn wsX2_test (wsV RX2 141 RX1 yX1_planTest wsX1_planTest) := goodIn_app (goodIn_of _ (by decide +kernel)) ggX2_test_X1_planTest
theorem dX2_test_0 : decode cX2_test 0 = .ok (.aload_n 0, 1) := by decide +kernel
theorem dX2_test_1 : decode cX2_test 1 = .ok (.invokevirtual 129, 3) := by decide +kernel
theorem dX2_test_4 : decode cX2_test 4 = .ok (.aload_n 0, 1) := by decide +kernel
theorem dX2_test_5 : decode cX2_test 5 = .ok (.getfield 42, 3) := by decide +kernel
theorem dX2_test_8 : decode cX2_test 8 = .ok (.invokevirtual 141, 3) := by decide +kernel
theorem dX2_test_11 : decode cX2_test 11 = .ok (.ireturn, 1) := by decide +kernel
set_option maxRecDepth 20000 in
theorem ggX2_foretells_X2_checkAt : GoodIn wsX2_foretells wsX2_checkAt := goodIn_r _ [6, 7, 8, 9, 10, 5, 11, 30, 31, 32, 33, 34, 35, 36, 37, 38] (by decide +kernel) (by decide +kernel)
set_option maxRecDepth 20000 in
theorem gX2_foretells_X2_checkAt : GoodIn wsX2_foretells (wsV RX2 50 RX2 yX2_checkAt wsX2_checkAt) := goodIn_app (goodIn_of _ (by decide +kernel)) ggX2_foretells_X2_checkAt
theorem dX2_foretells_0 : decode cX2_foretells 0 = .ok (.aload_n 0, 1) := by decide +kernel
theorem dX2_foretells_1 : decode cX2_foretells 1 = .ok (.iload_n 2, 1) := by decide +kernel
theorem dX2_foretells_2 : decode cX2_foretells 2 = .ok (.invokevirtual 50, 3) := by decide +kernel
theorem dX2_foretells_5 : decode cX2_foretells 5 = .ok (.astore_n 3, 1) := by decide +kernel
theorem dX2_foretells_6 : decode cX2_foretells 6 = .ok (.aload_n 3, 1) := by decide +kernel
theorem dX2_foretells_7 : decode cX2_foretells 7 = .ok (.ifnull 11, 3) := by decide +kernel
theorem dX2_foretells_10 : decode cX2_foretells 10 = .ok (.aload_n 0, 1) := by decide +kernel
theorem dX2_foretells_11 : decode cX2_foretells 11 = .ok (.iload_n 1, 1) := by decide +kernel
theorem dX2_foretells_12 : decode cX2_foretells 12 = .ok (.invokevirtual 50, 3) := by decide +kernel
theorem dX2_foretells_15 : decode cX2_foretells 15 = .ok (.ifnonnull 8, 3) := by decide +kernel
theorem dX2_foretells_18 : decode cX2_foretells 18 = .ok (.bipush (-2), 2) := by decide +kernel
theorem dX2_foretells_20 : decode cX2_foretells 20 = .ok (.goto 9, 3) := by decide +kernel
theorem dX2_foretells_23 : decode cX2_foretells 23 = .ok (.aload_n 3, 1) := by decide +kernel
theorem dX2_foretells_24 : decode cX2_foretells 24 = .ok (.getfield 144, 3) := by decide +kernel
theorem dX2_foretells_27 : decode cX2_foretells 27 = .ok (.iload_n 1, 1) := by decide +kernel
theorem dX2_foretells_28 : decode cX2_foretells 28 = .ok (.iaload, 1) := by decide +kernel
theorem dX2_foretells_29 : decode cX2_foretells 29 = .ok (.ireturn, 1) := by decide +kernel
set_option maxRecDepth 20000 in
theorem ggX2_sets_X2_checkAt : GoodIn wsX2_sets wsX2_checkAt := goodIn_r _ [6, 7, 8, 9, 10, 5, 11, 30, 31, 32, 33, 34, 35, 36, 37, 38] (by decide +kernel) (by decide +kernel)
set_option maxRecDepth 20000 in
theorem gX2_sets_X2_checkAt : GoodIn wsX2_sets (wsV RX2 50 RX2 yX2_checkAt wsX2_checkAt) := goodIn_app (goodIn_of _ (by decide +kernel)) ggX2_sets_X2_checkAt
theorem dX2_sets_0 : decode cX2_sets 0 = .ok (.aload_n 0, 1) := by decide +kernel
theorem dX2_sets_1 : decode cX2_sets 1 = .ok (.iload_n 1, 1) := by decide +kernel
theorem dX2_sets_2 : decode cX2_sets 2 = .ok (.invokevirtual 50, 3) := by decide +kernel
theorem dX2_sets_5 : decode cX2_sets 5 = .ok (.astore_n 2, 1) := by decide +kernel
theorem dX2_sets_6 : decode cX2_sets 6 = .ok (.aload_n 2, 1) := by decide +kernel
theorem dX2_sets_7 : decode cX2_sets 7 = .ok (.ifnonnull 8, 3) := by decide +kernel
theorem dX2_sets_10 : decode cX2_sets 10 = .ok (.bipush (-2), 2) := by decide +kernel
theorem dX2_sets_12 : decode cX2_sets 12 = .ok (.goto 7, 3) := by decide +kernel
theorem dX2_sets_15 : decode cX2_sets 15 = .ok (.aload_n 2, 1) := by decide +kernel
theorem dX2_sets_16 : decode cX2_sets 16 = .ok (.getfield 147, 3) := by decide +kernel
theorem dX2_sets_19 : decode cX2_sets 19 = .ok (.ireturn, 1) := by decide +kernel
set_option maxRecDepth 20000 in
theorem ggX2_count_X2_codeBits : GoodIn wsX2_count wsX2_codeBits := goodIn_r _ [10, 1, 11, 12, 13, 14, 9, 15, 16, 17, 18, 19, 40, 41, 42, 43, 44, 45, 46, 47, 48, 62, 63, 64, 65, 66, 67, 68, 69, 70, 71, 72, 73, 74, 75, 76, 77, 78, 79] (by decide +kernel) (by decide +kernel)
set_option maxRecDepth 20000 in
theorem gX2_count_X2_codeBits : GoodIn wsX2_count (wsV RX2 123 RX2 yX2_codeBits wsX2_codeBits) := goodIn_app (goodIn_of _ (by decide +kernel)) ggX2_count_X2_codeBits
set_option maxRecDepth 20000 in
theorem ggX2_count_J6_bitCount_0f7a4 : GoodIn wsX2_count wsJ6_bitCount_0f7a4 := goodIn_r _ [23, 24, 25, 26] (by decide +kernel) (by decide +kernel)
set_option maxRecDepth 20000 in
theorem gX2_count_J6_bitCount_0f7a4 : GoodIn wsX2_count (va_wsS RX2 150 yJ6_bitCount_0f7a4 wsJ6_bitCount_0f7a4) := goodIn_app (goodIn_of _ (by decide +kernel)) ggX2_count_J6_bitCount_0f7a4
set_option maxRecDepth 20000 in
theorem ggX2_count_X2_frozenCount : GoodIn wsX2_count wsX2_frozenCount := goodIn_r _ [30, 1, 12, 13, 14, 9, 15, 16, 17, 18, 19, 31, 32, 33, 34, 35, 36, 40, 41, 42, 43, 44, 45, 46, 47, 48, 62, 63, 64, 65, 66, 67, 68, 69, 70, 71, 72, 73, 74, 75, 76, 77, 78, 79] (by decide +kernel) (by decide +kernel)
set_option maxRecDepth 20000 in
theorem gX2_count_X2_frozenCount : GoodIn wsX2_count (wsV RX2 69 RX2 yX2_frozenCount wsX2_frozenCount) := goodIn_app (goodIn_of _ (by decide +kernel)) ggX2_count_X2_frozenCount
set_option maxRecDepth 20000 in
theorem ggX2_count_X2_asNumber : GoodIn wsX2_count wsX2_asNumber := goodIn_r _ [39] (by decide +kernel) (by decide +kernel)
set_option maxRecDepth 20000 in
theorem gX2_count_X2_asNumber : GoodIn wsX2_count (va_wsS RX2 82 yX2_asNumber wsX2_asNumber) := goodIn_app (goodIn_of _ (by decide +kernel)) ggX2_count_X2_asNumber
theorem dX2_count_0 : decode cX2_count 0 = .ok (.iload_n 1, 1) := by decide +kernel
theorem dX2_count_1 : decode cX2_count 1 = .ok (.tableswitch 105 0 7 #[47, 52, 57, 66, 75, 84, 89, 97], 47) := by decide +kernel
theorem dX2_count_48 : decode cX2_count 48 = .ok (.aload_n 0, 1) := by decide +kernel
theorem dX2_count_49 : decode cX2_count 49 = .ok (.getfield 15, 3) := by decide +kernel
theorem dX2_count_52 : decode cX2_count 52 = .ok (.ireturn, 1) := by decide +kernel
theorem dX2_count_53 : decode cX2_count 53 = .ok (.aload_n 0, 1) := by decide +kernel
theorem dX2_count_54 : decode cX2_count 54 = .ok (.getfield 29, 3) := by decide +kernel
theorem dX2_count_57 : decode cX2_count 57 = .ok (.ireturn, 1) := by decide +kernel
theorem dX2_count_58 : decode cX2_count 58 = .ok (.aload_n 0, 1) := by decide +kernel
theorem dX2_count_59 : decode cX2_count 59 = .ok (.iconst 1, 1) := by decide +kernel
theorem dX2_count_60 : decode cX2_count 60 = .ok (.invokevirtual 123, 3) := by decide +kernel
theorem dX2_count_63 : decode cX2_count 63 = .ok (.invokestatic 150, 3) := by decide +kernel
theorem dX2_count_66 : decode cX2_count 66 = .ok (.ireturn, 1) := by decide +kernel
theorem dX2_count_67 : decode cX2_count 67 = .ok (.aload_n 0, 1) := by decide +kernel
theorem dX2_count_68 : decode cX2_count 68 = .ok (.iconst 2, 1) := by decide +kernel
theorem dX2_count_69 : decode cX2_count 69 = .ok (.invokevirtual 123, 3) := by decide +kernel
theorem dX2_count_72 : decode cX2_count 72 = .ok (.invokestatic 150, 3) := by decide +kernel
theorem dX2_count_75 : decode cX2_count 75 = .ok (.ireturn, 1) := by decide +kernel
theorem dX2_count_76 : decode cX2_count 76 = .ok (.aload_n 0, 1) := by decide +kernel
theorem dX2_count_77 : decode cX2_count 77 = .ok (.iconst 3, 1) := by decide +kernel
theorem dX2_count_78 : decode cX2_count 78 = .ok (.invokevirtual 123, 3) := by decide +kernel
theorem dX2_count_81 : decode cX2_count 81 = .ok (.invokestatic 150, 3) := by decide +kernel
theorem dX2_count_84 : decode cX2_count 84 = .ok (.ireturn, 1) := by decide +kernel
theorem dX2_count_85 : decode cX2_count 85 = .ok (.aload_n 0, 1) := by decide +kernel
theorem dX2_count_86 : decode cX2_count 86 = .ok (.invokevirtual 69, 3) := by decide +kernel
theorem dX2_count_89 : decode cX2_count 89 = .ok (.ireturn, 1) := by decide +kernel
theorem dX2_count_90 : decode cX2_count 90 = .ok (.aload_n 0, 1) := by decide +kernel
theorem dX2_count_91 : decode cX2_count 91 = .ok (.getfield 42, 3) := by decide +kernel
theorem dX2_count_94 : decode cX2_count 94 = .ok (.getfield 117, 3) := by decide +kernel
theorem dX2_count_97 : decode cX2_count 97 = .ok (.ireturn, 1) := by decide +kernel
theorem dX2_count_98 : decode cX2_count 98 = .ok (.aload_n 0, 1) := by decide +kernel
theorem dX2_count_99 : decode cX2_count 99 = .ok (.getfield 32, 3) := by decide +kernel
theorem dX2_count_102 : decode cX2_count 102 = .ok (.invokestatic 82, 3) := by decide +kernel
theorem dX2_count_105 : decode cX2_count 105 = .ok (.ireturn, 1) := by decide +kernel
theorem dX2_count_106 : decode cX2_count 106 = .ok (.bipush (-2), 2) := by decide +kernel
theorem dX2_count_108 : decode cX2_count 108 = .ok (.ireturn, 1) := by decide +kernel
set_option maxRecDepth 20000 in
theorem ggX2_digest_X2_count : GoodIn wsX2_digest wsX2_count := goodIn_r _ [10, 3, 11, 5, 12, 13, 14, 15, 16, 9, 17, 18, 19, 20, 21, 22, 23, 24, 25, 26, 27, 28, 29, 30, 31, 32, 33, 34, 35, 36, 37, 38, 39, 40, 41, 42, 43, 44, 45, 46, 100, 101, 102, 103, 104, 105, 106, 107, 108, 109, 110, 111, 112, 113, 114, 115, 116, 117, 118, 119, 120, 121, 122, 123, 124, 125, 126, 127, 128, 129, 130, 131, 132, 133, 134, 135, 136, 137, 138, 139] (by decide +kernel) (by decide +kernel)
set_option maxRecDepth 20000 in
theorem gX2_digest_X2_count : GoodIn wsX2_digest (wsV RX2 159 RX2 yX2_count wsX2_count) := goodIn_app (goodIn_of _ (by decide +kernel)) ggX2_digest_X2_count
set_option maxRecDepth 20000 in
theorem ggX2_digest_X2_digestOfCheck : GoodIn wsX2_digest wsX2_digestOfCheck := goodIn_r _ [50, 2, 51, 52, 53, 9, 54, 19, 20, 21, 22, 3, 23, 24, 25, 26, 55, 56, 57, 58, 59, 60, 61, 62, 63, 41, 64, 65, 44, 45, 46, 66, 67, 68, 69, 70, 71, 72, 73, 74, 75, 39, 40, 42, 43, 76, 77, 78, 79, 80, 81, 82, 83, 84, 85, 38, 86, 87, 88, 89, 90, 100, 101, 102, 103, 104, 105, 106, 107, 108, 122, 123, 124, 125, 126, 127, 128, 129, 130, 131, 132, 133, 134, 135, 136, 137, 138, 139] (by decide +kernel) (by decide +kernel)
set_option maxRecDepth 20000 in
theorem gX2_digest_X2_digestOfCheck : GoodIn wsX2_digest (wsV RX2 162 RX2 yX2_digestOfCheck wsX2_digestOfCheck) := goodIn_app (goodIn_of _ (by decide +kernel)) ggX2_digest_X2_digestOfCheck
set_option maxRecDepth 20000 in
theorem ggX2_digest_X1_digestFrom : GoodIn wsX2_digest wsX1_digestFrom := goodIn_r _ [95, 96, 97, 98, 99, 109, 110, 111, 112, 113, 114, 115, 116, 117, 118, 119, 120, 121] (by decide +kernel) (by decide +kernel)
set_option maxRecDepth 20000 in
theorem gX2_digest_X1_digestFrom : GoodIn wsX2_digest (wsV RX2 166 RX1 yX1_digestFrom wsX1_digestFrom) := goodIn_app (goodIn_of _ (by decide +kernel)) ggX2_digest_X1_digestFrom
theorem dX2_digest_0 : decode cX2_digest 0 = .ok (.ldc2_w 155, 3) := by decide +kernel
theorem dX2_digest_3 : decode cX2_digest 3 = .ok (.lstore_n 1, 1) := by decide +kernel
theorem dX2_digest_4 : decode cX2_digest 4 = .ok (.iconst 0, 1) := by decide +kernel
theorem dX2_digest_5 : decode cX2_digest 5 = .ok (.istore_n 3, 1) := by decide +kernel
theorem dX2_digest_6 : decode cX2_digest 6 = .ok (.iload_n 3, 1) := by decide +kernel
theorem dX2_digest_7 : decode cX2_digest 7 = .ok (.bipush 8, 2) := by decide +kernel
theorem dX2_digest_9 : decode cX2_digest 9 = .ok (.if_icmp .ge 22, 3) := by decide +kernel
theorem dX2_digest_12 : decode cX2_digest 12 = .ok (.ldc2_w 157, 3) := by decide +kernel
theorem dX2_digest_15 : decode cX2_digest 15 = .ok (.lload_n 1, 1) := by decide +kernel
theorem dX2_digest_16 : decode cX2_digest 16 = .ok (.lmul, 1) := by decide +kernel
theorem dX2_digest_17 : decode cX2_digest 17 = .ok (.aload_n 0, 1) := by decide +kernel
theorem dX2_digest_18 : decode cX2_digest 18 = .ok (.iload_n 3, 1) := by decide +kernel
theorem dX2_digest_19 : decode cX2_digest 19 = .ok (.invokevirtual 159, 3) := by decide +kernel
theorem dX2_digest_22 : decode cX2_digest 22 = .ok (.i2l, 1) := by decide +kernel
theorem dX2_digest_23 : decode cX2_digest 23 = .ok (.ladd, 1) := by decide +kernel
theorem dX2_digest_24 : decode cX2_digest 24 = .ok (.lstore_n 1, 1) := by decide +kernel
theorem dX2_digest_25 : decode cX2_digest 25 = .ok (.iinc 3 1, 3) := by decide +kernel
theorem dX2_digest_28 : decode cX2_digest 28 = .ok (.goto (-22), 3) := by decide +kernel
theorem dX2_digest_31 : decode cX2_digest 31 = .ok (.iconst 0, 1) := by decide +kernel
theorem dX2_digest_32 : decode cX2_digest 32 = .ok (.istore_n 3, 1) := by decide +kernel
theorem dX2_digest_33 : decode cX2_digest 33 = .ok (.iload_n 3, 1) := by decide +kernel
theorem dX2_digest_34 : decode cX2_digest 34 = .ok (.aload_n 0, 1) := by decide +kernel
theorem dX2_digest_35 : decode cX2_digest 35 = .ok (.getfield 15, 3) := by decide +kernel
theorem dX2_digest_38 : decode cX2_digest 38 = .ok (.if_icmp .ge 16, 3) := by decide +kernel
theorem dX2_digest_41 : decode cX2_digest 41 = .ok (.aload_n 0, 1) := by decide +kernel
theorem dX2_digest_42 : decode cX2_digest 42 = .ok (.lload_n 1, 1) := by decide +kernel
theorem dX2_digest_43 : decode cX2_digest 43 = .ok (.iload_n 3, 1) := by decide +kernel
theorem dX2_digest_44 : decode cX2_digest 44 = .ok (.invokevirtual 162, 3) := by decide +kernel
theorem dX2_digest_47 : decode cX2_digest 47 = .ok (.lstore_n 1, 1) := by decide +kernel
theorem dX2_digest_48 : decode cX2_digest 48 = .ok (.iinc 3 1, 3) := by decide +kernel
theorem dX2_digest_51 : decode cX2_digest 51 = .ok (.goto (-18), 3) := by decide +kernel
theorem dX2_digest_54 : decode cX2_digest 54 = .ok (.iconst 0, 1) := by decide +kernel
theorem dX2_digest_55 : decode cX2_digest 55 = .ok (.istore_n 3, 1) := by decide +kernel
theorem dX2_digest_56 : decode cX2_digest 56 = .ok (.iload_n 3, 1) := by decide +kernel
theorem dX2_digest_57 : decode cX2_digest 57 = .ok (.iconst 4, 1) := by decide +kernel
theorem dX2_digest_58 : decode cX2_digest 58 = .ok (.if_icmp .ge 23, 3) := by decide +kernel
theorem dX2_digest_61 : decode cX2_digest 61 = .ok (.ldc2_w 157, 3) := by decide +kernel
theorem dX2_digest_64 : decode cX2_digest 64 = .ok (.lload_n 1, 1) := by decide +kernel
theorem dX2_digest_65 : decode cX2_digest 65 = .ok (.lmul, 1) := by decide +kernel
theorem dX2_digest_66 : decode cX2_digest 66 = .ok (.aload_n 0, 1) := by decide +kernel
theorem dX2_digest_67 : decode cX2_digest 67 = .ok (.getfield 19, 3) := by decide +kernel
theorem dX2_digest_70 : decode cX2_digest 70 = .ok (.iload_n 3, 1) := by decide +kernel
theorem dX2_digest_71 : decode cX2_digest 71 = .ok (.iaload, 1) := by decide +kernel
theorem dX2_digest_72 : decode cX2_digest 72 = .ok (.i2l, 1) := by decide +kernel
theorem dX2_digest_73 : decode cX2_digest 73 = .ok (.ladd, 1) := by decide +kernel
theorem dX2_digest_74 : decode cX2_digest 74 = .ok (.lstore_n 1, 1) := by decide +kernel
theorem dX2_digest_75 : decode cX2_digest 75 = .ok (.iinc 3 1, 3) := by decide +kernel
theorem dX2_digest_78 : decode cX2_digest 78 = .ok (.goto (-22), 3) := by decide +kernel
theorem dX2_digest_81 : decode cX2_digest 81 = .ok (.aload_n 0, 1) := by decide +kernel
theorem dX2_digest_82 : decode cX2_digest 82 = .ok (.getfield 42, 3) := by decide +kernel
theorem dX2_digest_85 : decode cX2_digest 85 = .ok (.lload_n 1, 1) := by decide +kernel
theorem dX2_digest_86 : decode cX2_digest 86 = .ok (.invokevirtual 166, 3) := by decide +kernel
theorem dX2_digest_89 : decode cX2_digest 89 = .ok (.lreturn, 1) := by decide +kernel
set_option maxRecDepth 20000 in
theorem ggX2_digestOfCheck_X2_about : GoodIn wsX2_digestOfCheck wsX2_about := goodIn_r _ [6, 7, 8, 9, 5, 10, 11, 12, 13, 14, 15, 16, 17, 18, 19, 20, 21, 22, 23, 24, 25, 26, 27, 28, 29, 30, 31, 32, 33, 34, 35, 36, 37, 38, 39, 40, 41, 42, 43, 44, 61, 62, 63, 64, 65, 66, 67, 68, 69, 70, 71, 72, 73, 74, 75, 76, 77, 78, 79, 80, 81, 82, 83, 84, 85, 86, 87] (by decide +kernel) (by decide +kernel)
set_option maxRecDepth 20000 in
theorem gX2_digestOfCheck_X2_about : GoodIn wsX2_digestOfCheck (wsV RX2 170 RX2 yX2_about wsX2_about) := goodIn_app (goodIn_of _ (by decide +kernel)) ggX2_digestOfCheck_X2_about
set_option maxRecDepth 20000 in
theorem ggX2_digestOfCheck_X2_frozenAt : GoodIn wsX2_digestOfCheck wsX2_frozenAt := goodIn_r _ [48, 49, 7, 8, 9, 5, 10, 11, 12, 13, 14, 15, 70, 71, 72, 73, 74, 75, 76, 77, 78, 79, 80, 81, 82, 83, 84, 85, 86, 87, 61, 62, 63, 64, 65, 66, 67, 68, 69] (by decide +kernel) (by decide +kernel)
set_option maxRecDepth 20000 in
theorem gX2_digestOfCheck_X2_frozenAt : GoodIn wsX2_digestOfCheck (wsV RX2 173 RX2 yX2_frozenAt wsX2_frozenAt) := goodIn_app (goodIn_of _ (by decide +kernel)) ggX2_digestOfCheck_X2_frozenAt
set_option maxRecDepth 20000 in
theorem ggX2_digestOfCheck_X2_frozen : GoodIn wsX2_digestOfCheck wsX2_frozen := goodIn_r _ [53, 54, 7, 8, 9, 5, 10, 11, 12, 13, 14, 15, 55, 41, 42, 25, 43, 44, 70, 71, 72, 73, 74, 75, 76, 77, 78, 79, 80, 81, 82, 83, 84, 85, 86, 87, 61, 62, 63, 64, 65, 66, 67, 68, 69] (by decide +kernel) (by decide +kernel)
set_option maxRecDepth 20000 in
theorem gX2_digestOfCheck_X2_frozen : GoodIn wsX2_digestOfCheck (wsV RX2 176 RX2 yX2_frozen wsX2_frozen) := goodIn_app (goodIn_of _ (by decide +kernel)) ggX2_digestOfCheck_X2_frozen
set_option maxRecDepth 20000 in
theorem ggX2_digestOfCheck_X2_sets : GoodIn wsX2_digestOfCheck wsX2_sets := goodIn_r _ [59, 60, 7, 8, 9, 5, 10, 11, 12, 13, 14, 15, 70, 71, 72, 73, 74, 75, 76, 77, 78, 79, 80, 81, 82, 83, 84, 85, 86, 87, 61, 62, 63, 64, 65, 66, 67, 68, 69] (by decide +kernel) (by decide +kernel)
set_option maxRecDepth 20000 in
theorem gX2_digestOfCheck_X2_sets : GoodIn wsX2_digestOfCheck (wsV RX2 179 RX2 yX2_sets wsX2_sets) := goodIn_app (goodIn_of _ (by decide +kernel)) ggX2_digestOfCheck_X2_sets
theorem dX2_digestOfCheck_0 : decode cX2_digestOfCheck 0 = .ok (.lload_n 1, 1) := by decide +kernel
theorem dX2_digestOfCheck_1 : decode cX2_digestOfCheck 1 = .ok (.lstore 4, 2) := by decide +kernel
theorem dX2_digestOfCheck_3 : decode cX2_digestOfCheck 3 = .ok (.iconst 0, 1) := by decide +kernel
theorem dX2_digestOfCheck_4 : decode cX2_digestOfCheck 4 = .ok (.istore 6, 2) := by decide +kernel
theorem dX2_digestOfCheck_6 : decode cX2_digestOfCheck 6 = .ok (.iload 6, 2) := by decide +kernel
theorem dX2_digestOfCheck_8 : decode cX2_digestOfCheck 8 = .ok (.bipush 8, 2) := by decide +kernel
theorem dX2_digestOfCheck_10 : decode cX2_digestOfCheck 10 = .ok (.if_icmp .ge 26, 3) := by decide +kernel
theorem dX2_digestOfCheck_13 : decode cX2_digestOfCheck 13 = .ok (.ldc2_w 157, 3) := by decide +kernel
theorem dX2_digestOfCheck_16 : decode cX2_digestOfCheck 16 = .ok (.lload 4, 2) := by decide +kernel
theorem dX2_digestOfCheck_18 : decode cX2_digestOfCheck 18 = .ok (.lmul, 1) := by decide +kernel
theorem dX2_digestOfCheck_19 : decode cX2_digestOfCheck 19 = .ok (.aload_n 0, 1) := by decide +kernel
theorem dX2_digestOfCheck_20 : decode cX2_digestOfCheck 20 = .ok (.iload_n 3, 1) := by decide +kernel
theorem dX2_digestOfCheck_21 : decode cX2_digestOfCheck 21 = .ok (.iload 6, 2) := by decide +kernel
theorem dX2_digestOfCheck_23 : decode cX2_digestOfCheck 23 = .ok (.invokevirtual 170, 3) := by decide +kernel
theorem dX2_digestOfCheck_26 : decode cX2_digestOfCheck 26 = .ok (.i2l, 1) := by decide +kernel
theorem dX2_digestOfCheck_27 : decode cX2_digestOfCheck 27 = .ok (.ladd, 1) := by decide +kernel
theorem dX2_digestOfCheck_28 : decode cX2_digestOfCheck 28 = .ok (.lstore 4, 2) := by decide +kernel
theorem dX2_digestOfCheck_30 : decode cX2_digestOfCheck 30 = .ok (.iinc 6 1, 3) := by decide +kernel
theorem dX2_digestOfCheck_33 : decode cX2_digestOfCheck 33 = .ok (.goto (-27), 3) := by decide +kernel
theorem dX2_digestOfCheck_36 : decode cX2_digestOfCheck 36 = .ok (.ldc2_w 157, 3) := by decide +kernel
theorem dX2_digestOfCheck_39 : decode cX2_digestOfCheck 39 = .ok (.lload 4, 2) := by decide +kernel
theorem dX2_digestOfCheck_41 : decode cX2_digestOfCheck 41 = .ok (.lmul, 1) := by decide +kernel
theorem dX2_digestOfCheck_42 : decode cX2_digestOfCheck 42 = .ok (.aload_n 0, 1) := by decide +kernel
theorem dX2_digestOfCheck_43 : decode cX2_digestOfCheck 43 = .ok (.iload_n 3, 1) := by decide +kernel
theorem dX2_digestOfCheck_44 : decode cX2_digestOfCheck 44 = .ok (.invokevirtual 173, 3) := by decide +kernel
theorem dX2_digestOfCheck_47 : decode cX2_digestOfCheck 47 = .ok (.i2l, 1) := by decide +kernel
theorem dX2_digestOfCheck_48 : decode cX2_digestOfCheck 48 = .ok (.ladd, 1) := by decide +kernel
theorem dX2_digestOfCheck_49 : decode cX2_digestOfCheck 49 = .ok (.lstore 4, 2) := by decide +kernel
theorem dX2_digestOfCheck_51 : decode cX2_digestOfCheck 51 = .ok (.iconst 0, 1) := by decide +kernel
theorem dX2_digestOfCheck_52 : decode cX2_digestOfCheck 52 = .ok (.istore 6, 2) := by decide +kernel
theorem dX2_digestOfCheck_54 : decode cX2_digestOfCheck 54 = .ok (.iload 6, 2) := by decide +kernel
theorem dX2_digestOfCheck_56 : decode cX2_digestOfCheck 56 = .ok (.iconst 4, 1) := by decide +kernel
theorem dX2_digestOfCheck_57 : decode cX2_digestOfCheck 57 = .ok (.if_icmp .ge 26, 3) := by decide +kernel
theorem dX2_digestOfCheck_60 : decode cX2_digestOfCheck 60 = .ok (.ldc2_w 157, 3) := by decide +kernel
theorem dX2_digestOfCheck_63 : decode cX2_digestOfCheck 63 = .ok (.lload 4, 2) := by decide +kernel
theorem dX2_digestOfCheck_65 : decode cX2_digestOfCheck 65 = .ok (.lmul, 1) := by decide +kernel
theorem dX2_digestOfCheck_66 : decode cX2_digestOfCheck 66 = .ok (.aload_n 0, 1) := by decide +kernel
theorem dX2_digestOfCheck_67 : decode cX2_digestOfCheck 67 = .ok (.iload_n 3, 1) := by decide +kernel
theorem dX2_digestOfCheck_68 : decode cX2_digestOfCheck 68 = .ok (.iload 6, 2) := by decide +kernel
theorem dX2_digestOfCheck_70 : decode cX2_digestOfCheck 70 = .ok (.invokevirtual 176, 3) := by decide +kernel
theorem dX2_digestOfCheck_73 : decode cX2_digestOfCheck 73 = .ok (.i2l, 1) := by decide +kernel
theorem dX2_digestOfCheck_74 : decode cX2_digestOfCheck 74 = .ok (.ladd, 1) := by decide +kernel
theorem dX2_digestOfCheck_75 : decode cX2_digestOfCheck 75 = .ok (.lstore 4, 2) := by decide +kernel
theorem dX2_digestOfCheck_77 : decode cX2_digestOfCheck 77 = .ok (.iinc 6 1, 3) := by decide +kernel
theorem dX2_digestOfCheck_80 : decode cX2_digestOfCheck 80 = .ok (.goto (-26), 3) := by decide +kernel
theorem dX2_digestOfCheck_83 : decode cX2_digestOfCheck 83 = .ok (.ldc2_w 157, 3) := by decide +kernel
theorem dX2_digestOfCheck_86 : decode cX2_digestOfCheck 86 = .ok (.lload 4, 2) := by decide +kernel
theorem dX2_digestOfCheck_88 : decode cX2_digestOfCheck 88 = .ok (.lmul, 1) := by decide +kernel
theorem dX2_digestOfCheck_89 : decode cX2_digestOfCheck 89 = .ok (.aload_n 0, 1) := by decide +kernel
theorem dX2_digestOfCheck_90 : decode cX2_digestOfCheck 90 = .ok (.iload_n 3, 1) := by decide +kernel
theorem dX2_digestOfCheck_91 : decode cX2_digestOfCheck 91 = .ok (.invokevirtual 179, 3) := by decide +kernel
theorem dX2_digestOfCheck_94 : decode cX2_digestOfCheck 94 = .ok (.i2l, 1) := by decide +kernel
theorem dX2_digestOfCheck_95 : decode cX2_digestOfCheck 95 = .ok (.ladd, 1) := by decide +kernel
theorem dX2_digestOfCheck_96 : decode cX2_digestOfCheck 96 = .ok (.lreturn, 1) := by decide +kernel
theorem dX2_isWithin_0 : decode cX2_isWithin 0 = .ok (.iload_n 0, 1) := by decide +kernel
theorem dX2_isWithin_1 : decode cX2_isWithin 1 = .ok (.iload_n 1, 1) := by decide +kernel
theorem dX2_isWithin_2 : decode cX2_isWithin 2 = .ok (.if_icmp .lt 12, 3) := by decide +kernel
theorem dX2_isWithin_5 : decode cX2_isWithin 5 = .ok (.iload_n 0, 1) := by decide +kernel
theorem dX2_isWithin_6 : decode cX2_isWithin 6 = .ok (.iload_n 2, 1) := by decide +kernel
theorem dX2_isWithin_7 : decode cX2_isWithin 7 = .ok (.if_icmp .gt 7, 3) := by decide +kernel
theorem dX2_isWithin_10 : decode cX2_isWithin 10 = .ok (.iconst 1, 1) := by decide +kernel
theorem dX2_isWithin_11 : decode cX2_isWithin 11 = .ok (.goto 4, 3) := by decide +kernel
theorem dX2_isWithin_14 : decode cX2_isWithin 14 = .ok (.iconst 0, 1) := by decide +kernel
theorem dX2_isWithin_15 : decode cX2_isWithin 15 = .ok (.ireturn, 1) := by decide +kernel
theorem dX2_isBitsBelow_0 : decode cX2_isBitsBelow 0 = .ok (.iload_n 0, 1) := by decide +kernel
theorem dX2_isBitsBelow_1 : decode cX2_isBitsBelow 1 = .ok (.iconst 1, 1) := by decide +kernel
theorem dX2_isBitsBelow_2 : decode cX2_isBitsBelow 2 = .ok (.iload_n 1, 1) := by decide +kernel
theorem dX2_isBitsBelow_3 : decode cX2_isBitsBelow 3 = .ok (.ishl, 1) := by decide +kernel
theorem dX2_isBitsBelow_4 : decode cX2_isBitsBelow 4 = .ok (.ineg, 1) := by decide +kernel
theorem dX2_isBitsBelow_5 : decode cX2_isBitsBelow 5 = .ok (.iand, 1) := by decide +kernel
theorem dX2_isBitsBelow_6 : decode cX2_isBitsBelow 6 = .ok (.ifCond .ne 7, 3) := by decide +kernel
theorem dX2_isBitsBelow_9 : decode cX2_isBitsBelow 9 = .ok (.iconst 1, 1) := by decide +kernel
theorem dX2_isBitsBelow_10 : decode cX2_isBitsBelow 10 = .ok (.goto 4, 3) := by decide +kernel
theorem dX2_isBitsBelow_13 : decode cX2_isBitsBelow 13 = .ok (.iconst 0, 1) := by decide +kernel
theorem dX2_isBitsBelow_14 : decode cX2_isBitsBelow 14 = .ok (.ireturn, 1) := by decide +kernel
theorem dX2_asNumber_0 : decode cX2_asNumber 0 = .ok (.iload_n 0, 1) := by decide +kernel
theorem dX2_asNumber_1 : decode cX2_asNumber 1 = .ok (.ifCond .eq 7, 3) := by decide +kernel
theorem dX2_asNumber_4 : decode cX2_asNumber 4 = .ok (.iconst 1, 1) := by decide +kernel
theorem dX2_asNumber_5 : decode cX2_asNumber 5 = .ok (.goto 4, 3) := by decide +kernel
theorem dX2_asNumber_8 : decode cX2_asNumber 8 = .ok (.iconst 0, 1) := by decide +kernel
theorem dX2_asNumber_9 : decode cX2_asNumber 9 = .ok (.ireturn, 1) := by decide +kernel
set_option maxRecDepth 20000 in
theorem ggX2_checkAt_X2_isWithin : GoodIn wsX2_checkAt wsX2_isWithin := goodIn_r _ [6] (by decide +kernel) (by decide +kernel)
set_option maxRecDepth 20000 in
theorem gX2_checkAt_X2_isWithin : GoodIn wsX2_checkAt (va_wsS RX2 46 yX2_isWithin wsX2_isWithin) := goodIn_app (goodIn_of _ (by decide +kernel)) ggX2_checkAt_X2_isWithin
theorem dX2_checkAt_0 : decode cX2_checkAt 0 = .ok (.iload_n 1, 1) := by decide +kernel
theorem dX2_checkAt_1 : decode cX2_checkAt 1 = .ok (.iconst 0, 1) := by decide +kernel
theorem dX2_checkAt_2 : decode cX2_checkAt 2 = .ok (.aload_n 0, 1) := by decide +kernel
theorem dX2_checkAt_3 : decode cX2_checkAt 3 = .ok (.getfield 15, 3) := by decide +kernel
theorem dX2_checkAt_6 : decode cX2_checkAt 6 = .ok (.iconst 1, 1) := by decide +kernel
theorem dX2_checkAt_7 : decode cX2_checkAt 7 = .ok (.isub, 1) := by decide +kernel
theorem dX2_checkAt_8 : decode cX2_checkAt 8 = .ok (.invokestatic 46, 3) := by decide +kernel
theorem dX2_checkAt_11 : decode cX2_checkAt 11 = .ok (.ifCond .eq 12, 3) := by decide +kernel
theorem dX2_checkAt_14 : decode cX2_checkAt 14 = .ok (.aload_n 0, 1) := by decide +kernel
theorem dX2_checkAt_15 : decode cX2_checkAt 15 = .ok (.getfield 11, 3) := by decide +kernel
theorem dX2_checkAt_18 : decode cX2_checkAt 18 = .ok (.iload_n 1, 1) := by decide +kernel
theorem dX2_checkAt_19 : decode cX2_checkAt 19 = .ok (.aaload, 1) := by decide +kernel
theorem dX2_checkAt_20 : decode cX2_checkAt 20 = .ok (.goto 4, 3) := by decide +kernel
theorem dX2_checkAt_23 : decode cX2_checkAt 23 = .ok (.aconst_null, 1) := by decide +kernel
theorem dX2_checkAt_24 : decode cX2_checkAt 24 = .ok (.areturn, 1) := by decide +kernel
set_option maxRecDepth 20000 in
theorem ggX2_isHeldBack_X2_checkAt : GoodIn wsX2_isHeldBack wsX2_checkAt := goodIn_r _ [7, 8, 9, 10, 11, 6, 12, 37, 38, 39, 40, 41, 42, 43, 44, 45] (by decide +kernel) (by decide +kernel)
set_option maxRecDepth 20000 in
theorem gX2_isHeldBack_X2_checkAt : GoodIn wsX2_isHeldBack (wsV RX2 50 RX2 yX2_checkAt wsX2_checkAt) := goodIn_app (goodIn_of _ (by decide +kernel)) ggX2_isHeldBack_X2_checkAt
set_option maxRecDepth 20000 in
theorem ggX2_isHeldBack_X0_isTroubled : GoodIn wsX2_isHeldBack wsX0_isTroubled := goodIn_r _ [17, 18, 19, 20, 21, 22, 23, 24, 25, 26, 27, 28, 29, 30, 31, 32, 33, 34, 35, 36] (by decide +kernel) (by decide +kernel)
set_option maxRecDepth 20000 in
theorem gX2_isHeldBack_X0_isTroubled : GoodIn wsX2_isHeldBack (wsV RX2 188 RX0 yX0_isTroubled wsX0_isTroubled) := goodIn_app (goodIn_of _ (by decide +kernel)) ggX2_isHeldBack_X0_isTroubled
theorem dX2_isHeldBack_0 : decode cX2_isHeldBack 0 = .ok (.aload_n 1, 1) := by decide +kernel
theorem dX2_isHeldBack_1 : decode cX2_isHeldBack 1 = .ok (.getfield 182, 3) := by decide +kernel
theorem dX2_isHeldBack_4 : decode cX2_isHeldBack 4 = .ok (.iconst 2, 1) := by decide +kernel
theorem dX2_isHeldBack_5 : decode cX2_isHeldBack 5 = .ok (.if_icmp .eq 5, 3) := by decide +kernel
theorem dX2_isHeldBack_8 : decode cX2_isHeldBack 8 = .ok (.iconst 0, 1) := by decide +kernel
theorem dX2_isHeldBack_9 : decode cX2_isHeldBack 9 = .ok (.ireturn, 1) := by decide +kernel
theorem dX2_isHeldBack_10 : decode cX2_isHeldBack 10 = .ok (.aload_n 0, 1) := by decide +kernel
theorem dX2_isHeldBack_11 : decode cX2_isHeldBack 11 = .ok (.aload_n 1, 1) := by decide +kernel
theorem dX2_isHeldBack_12 : decode cX2_isHeldBack 12 = .ok (.getfield 185, 3) := by decide +kernel
theorem dX2_isHeldBack_15 : decode cX2_isHeldBack 15 = .ok (.invokevirtual 50, 3) := by decide +kernel
theorem dX2_isHeldBack_18 : decode cX2_isHeldBack 18 = .ok (.astore_n 2, 1) := by decide +kernel
theorem dX2_isHeldBack_19 : decode cX2_isHeldBack 19 = .ok (.aload_n 2, 1) := by decide +kernel
theorem dX2_isHeldBack_20 : decode cX2_isHeldBack 20 = .ok (.ifnull 14, 3) := by decide +kernel
theorem dX2_isHeldBack_23 : decode cX2_isHeldBack 23 = .ok (.aload_n 2, 1) := by decide +kernel
theorem dX2_isHeldBack_24 : decode cX2_isHeldBack 24 = .ok (.invokevirtual 188, 3) := by decide +kernel
theorem dX2_isHeldBack_27 : decode cX2_isHeldBack 27 = .ok (.ifCond .eq 7, 3) := by decide +kernel
theorem dX2_isHeldBack_30 : decode cX2_isHeldBack 30 = .ok (.iconst 1, 1) := by decide +kernel
theorem dX2_isHeldBack_31 : decode cX2_isHeldBack 31 = .ok (.goto 4, 3) := by decide +kernel
theorem dX2_isHeldBack_34 : decode cX2_isHeldBack 34 = .ok (.iconst 0, 1) := by decide +kernel
theorem dX2_isHeldBack_35 : decode cX2_isHeldBack 35 = .ok (.ireturn, 1) := by decide +kernel
set_option maxRecDepth 20000 in
theorem ggX2_endFor_X2_isHeldBack : GoodIn wsX2_endFor wsX2_isHeldBack := goodIn_r _ [6, 7, 8, 9, 10, 11, 5, 12, 13, 14, 15, 16, 17, 18, 19, 20, 21, 22, 23, 109, 110, 111, 112, 113, 114, 115, 116, 117, 118, 119, 120, 121, 122, 123, 124, 125, 126, 100, 101, 102, 103, 104, 105, 106, 107, 108] (by decide +kernel) (by decide +kernel)
set_option maxRecDepth 20000 in
theorem gX2_endFor_X2_isHeldBack : GoodIn wsX2_endFor (wsV RX2 79 RX2 yX2_isHeldBack wsX2_isHeldBack) := goodIn_app (goodIn_of _ (by decide +kernel)) ggX2_endFor_X2_isHeldBack
set_option maxRecDepth 20000 in
theorem ggX2_endFor_X0_countDrive : GoodIn wsX2_endFor wsX0_countDrive := goodIn_r _ [27, 28, 23, 29, 30, 31, 32, 21, 33, 34, 35, 36, 37, 38, 39, 40, 41, 42, 43, 44, 45, 46, 47, 48, 49, 50, 51, 52, 109, 110, 111, 112, 113, 114, 115, 116, 117, 118, 119, 120, 121, 122, 123, 124, 125, 126] (by decide +kernel) (by decide +kernel)
set_option maxRecDepth 20000 in
theorem gX2_endFor_X0_countDrive : GoodIn wsX2_endFor (wsV RX2 191 RX0 yX0_countDrive wsX0_countDrive) := goodIn_app (goodIn_of _ (by decide +kernel)) ggX2_endFor_X0_countDrive
set_option maxRecDepth 20000 in
theorem ggX2_endFor_X0_noteSet : GoodIn wsX2_endFor wsX0_noteSet := goodIn_r _ [56, 57, 58, 109, 110, 111, 112, 113, 114, 115, 116, 117, 118, 119, 120, 121, 122, 123, 124, 125, 126] (by decide +kernel) (by decide +kernel)
set_option maxRecDepth 20000 in
theorem gX2_endFor_X0_noteSet : GoodIn wsX2_endFor (wsV RX2 195 RX0 yX0_noteSet wsX0_noteSet) := goodIn_app (goodIn_of _ (by decide +kernel)) ggX2_endFor_X0_noteSet
set_option maxRecDepth 20000 in
theorem ggX2_endFor_X2_freeze : GoodIn wsX2_endFor wsX2_freeze := goodIn_r _ [62, 63, 64, 65, 66, 67, 68, 69, 21, 70, 71, 72, 73, 74, 75, 52, 76, 77, 78, 79, 5, 80, 13, 9, 10, 11, 12, 14, 15, 16, 17, 81, 82, 83, 84, 85, 86, 87, 88, 89, 90, 91, 92, 93, 94, 95, 96, 97, 98, 99, 49, 50, 51, 100, 101, 102, 103, 104, 105, 106, 107, 108, 109, 110, 111, 112, 113, 114, 115, 116, 117, 118, 119, 120, 121, 122, 123, 124, 125, 126] (by decide +kernel) (by decide +kernel)
set_option maxRecDepth 20000 in
theorem gX2_endFor_X2_freeze : GoodIn wsX2_endFor (wsV RX2 199 RX2 yX2_freeze wsX2_freeze) := goodIn_app (goodIn_of _ (by decide +kernel)) ggX2_endFor_X2_freeze
theorem dX2_endFor_0 : decode cX2_endFor 0 = .ok (.aload_n 1, 1) := by decide +kernel
theorem dX2_endFor_1 : decode cX2_endFor 1 = .ok (.aload_n 0, 1) := by decide +kernel
theorem dX2_endFor_2 : decode cX2_endFor 2 = .ok (.aload_n 1, 1) := by decide +kernel
theorem dX2_endFor_3 : decode cX2_endFor 3 = .ok (.invokevirtual 79, 3) := by decide +kernel
theorem dX2_endFor_6 : decode cX2_endFor 6 = .ok (.invokevirtual 191, 3) := by decide +kernel
theorem dX2_endFor_9 : decode cX2_endFor 9 = .ok (.istore_n 2, 1) := by decide +kernel
theorem dX2_endFor_10 : decode cX2_endFor 10 = .ok (.iload_n 2, 1) := by decide +kernel
theorem dX2_endFor_11 : decode cX2_endFor 11 = .ok (.ifCond .eq 16, 3) := by decide +kernel
theorem dX2_endFor_14 : decode cX2_endFor 14 = .ok (.aload_n 1, 1) := by decide +kernel
theorem dX2_endFor_15 : decode cX2_endFor 15 = .ok (.aload_n 0, 1) := by decide +kernel
theorem dX2_endFor_16 : decode cX2_endFor 16 = .ok (.getfield 36, 3) := by decide +kernel
theorem dX2_endFor_19 : decode cX2_endFor 19 = .ok (.invokevirtual 195, 3) := by decide +kernel
theorem dX2_endFor_22 : decode cX2_endFor 22 = .ok (.aload_n 0, 1) := by decide +kernel
theorem dX2_endFor_23 : decode cX2_endFor 23 = .ok (.aload_n 1, 1) := by decide +kernel
theorem dX2_endFor_24 : decode cX2_endFor 24 = .ok (.invokevirtual 199, 3) := by decide +kernel
theorem dX2_endFor_27 : decode cX2_endFor 27 = .ok (.iload_n 2, 1) := by decide +kernel
theorem dX2_endFor_28 : decode cX2_endFor 28 = .ok (.ireturn, 1) := by decide +kernel
set_option maxRecDepth 20000 in
theorem ggX2_freeze_X0_freeze : GoodIn wsX2_freeze wsX0_freeze := goodIn_r _ [9, 10, 11, 12, 13, 14, 15, 16, 62, 63, 64, 65, 66, 67, 68, 69, 70, 71, 72, 73, 74, 75, 76, 77, 78, 79] (by decide +kernel) (by decide +kernel)
set_option maxRecDepth 20000 in
theorem gX2_freeze_X0_freeze : GoodIn wsX2_freeze (wsV RX2 203 RX0 yX0_freeze wsX0_freeze) := goodIn_app (goodIn_of _ (by decide +kernel)) ggX2_freeze_X0_freeze
set_option maxRecDepth 20000 in
theorem ggX2_freeze_X2_frozenCount : GoodIn wsX2_freeze wsX2_frozenCount := goodIn_r _ [21, 22, 23, 24, 25, 20, 26, 27, 28, 29, 30, 31, 32, 33, 8, 34, 15, 53, 54, 55, 56, 57, 58, 59, 60, 61, 62, 63, 64, 65, 66, 67, 68, 69, 70, 71, 72, 73, 74, 75, 76, 77, 78, 79] (by decide +kernel) (by decide +kernel)
set_option maxRecDepth 20000 in
theorem gX2_freeze_X2_frozenCount : GoodIn wsX2_freeze (wsV RX2 69 RX2 yX2_frozenCount wsX2_frozenCount) := goodIn_app (goodIn_of _ (by decide +kernel)) ggX2_freeze_X2_frozenCount
set_option maxRecDepth 20000 in
theorem ggX2_freeze_X2_leastFrozen : GoodIn wsX2_freeze wsX2_leastFrozen := goodIn_r _ [38, 22, 23, 24, 25, 20, 26, 27, 28, 29, 30, 31, 32, 33, 8, 34, 15, 39, 40, 41, 42, 43, 44, 45, 46, 47, 48, 16, 53, 54, 55, 56, 57, 58, 59, 60, 61, 62, 63, 64, 65, 66, 67, 68, 69, 70, 71, 72, 73, 74, 75, 76, 77, 78, 79] (by decide +kernel) (by decide +kernel)
set_option maxRecDepth 20000 in
theorem gX2_freeze_X2_leastFrozen : GoodIn wsX2_freeze (wsV RX2 72 RX2 yX2_leastFrozen wsX2_leastFrozen) := goodIn_app (goodIn_of _ (by decide +kernel)) ggX2_freeze_X2_leastFrozen
set_option maxRecDepth 20000 in
theorem ggX2_freeze_X0_thaw : GoodIn wsX2_freeze wsX0_thaw := goodIn_r _ [52, 15, 62, 63, 64, 65, 66, 67, 68, 69, 70, 71, 72, 73, 74, 75, 76, 77, 78, 79] (by decide +kernel) (by decide +kernel)
set_option maxRecDepth 20000 in
theorem gX2_freeze_X0_thaw : GoodIn wsX2_freeze (wsV RX2 76 RX0 yX0_thaw wsX0_thaw) := goodIn_app (goodIn_of _ (by decide +kernel)) ggX2_freeze_X0_thaw
theorem dX2_freeze_0 : decode cX2_freeze 0 = .ok (.aload_n 1, 1) := by decide +kernel
theorem dX2_freeze_1 : decode cX2_freeze 1 = .ok (.aload_n 0, 1) := by decide +kernel
theorem dX2_freeze_2 : decode cX2_freeze 2 = .ok (.getfield 19, 3) := by decide +kernel
theorem dX2_freeze_5 : decode cX2_freeze 5 = .ok (.aload_n 0, 1) := by decide +kernel
theorem dX2_freeze_6 : decode cX2_freeze 6 = .ok (.getfield 29, 3) := by decide +kernel
theorem dX2_freeze_9 : decode cX2_freeze 9 = .ok (.aload_n 0, 1) := by decide +kernel
theorem dX2_freeze_10 : decode cX2_freeze 10 = .ok (.getfield 26, 3) := by decide +kernel
theorem dX2_freeze_13 : decode cX2_freeze 13 = .ok (.invokevirtual 203, 3) := by decide +kernel
theorem dX2_freeze_16 : decode cX2_freeze 16 = .ok (.aload_n 0, 1) := by decide +kernel
theorem dX2_freeze_17 : decode cX2_freeze 17 = .ok (.dup, 1) := by decide +kernel
theorem dX2_freeze_18 : decode cX2_freeze 18 = .ok (.getfield 26, 3) := by decide +kernel
theorem dX2_freeze_21 : decode cX2_freeze 21 = .ok (.iconst 1, 1) := by decide +kernel
theorem dX2_freeze_22 : decode cX2_freeze 22 = .ok (.iadd, 1) := by decide +kernel
theorem dX2_freeze_23 : decode cX2_freeze 23 = .ok (.putfield 26, 3) := by decide +kernel
theorem dX2_freeze_26 : decode cX2_freeze 26 = .ok (.aload_n 0, 1) := by decide +kernel
theorem dX2_freeze_27 : decode cX2_freeze 27 = .ok (.invokevirtual 69, 3) := by decide +kernel
theorem dX2_freeze_30 : decode cX2_freeze 30 = .ok (.aload_n 0, 1) := by decide +kernel
theorem dX2_freeze_31 : decode cX2_freeze 31 = .ok (.getfield 23, 3) := by decide +kernel
theorem dX2_freeze_34 : decode cX2_freeze 34 = .ok (.if_icmp .gt 4, 3) := by decide +kernel
theorem dX2_freeze_37 : decode cX2_freeze 37 = .ok (.return_, 1) := by decide +kernel
theorem dX2_freeze_38 : decode cX2_freeze 38 = .ok (.aload_n 0, 1) := by decide +kernel
theorem dX2_freeze_39 : decode cX2_freeze 39 = .ok (.invokevirtual 72, 3) := by decide +kernel
theorem dX2_freeze_42 : decode cX2_freeze 42 = .ok (.astore_n 2, 1) := by decide +kernel
theorem dX2_freeze_43 : decode cX2_freeze 43 = .ok (.aload_n 2, 1) := by decide +kernel
theorem dX2_freeze_44 : decode cX2_freeze 44 = .ok (.ifnonnull 5, 3) := by decide +kernel
theorem dX2_freeze_47 : decode cX2_freeze 47 = .ok (.aload_n 1, 1) := by decide +kernel
theorem dX2_freeze_48 : decode cX2_freeze 48 = .ok (.astore_n 2, 1) := by decide +kernel
theorem dX2_freeze_49 : decode cX2_freeze 49 = .ok (.aload_n 2, 1) := by decide +kernel
theorem dX2_freeze_50 : decode cX2_freeze 50 = .ok (.invokevirtual 76, 3) := by decide +kernel
theorem dX2_freeze_53 : decode cX2_freeze 53 = .ok (.return_, 1) := by decide +kernel
set_option maxRecDepth 20000 in
theorem ggX2_frozenCount_X2_checkAt : GoodIn wsX2_frozenCount wsX2_checkAt := goodIn_r _ [6, 1, 7, 8, 9, 5, 10, 17, 18, 19, 20, 21, 22, 23, 24, 25] (by decide +kernel) (by decide +kernel)
set_option maxRecDepth 20000 in
theorem gX2_frozenCount_X2_checkAt : GoodIn wsX2_frozenCount (wsV RX2 50 RX2 yX2_checkAt wsX2_checkAt) := goodIn_app (goodIn_of _ (by decide +kernel)) ggX2_frozenCount_X2_checkAt
set_option maxRecDepth 20000 in
theorem ggX2_frozenCount_X0_isFrozen : GoodIn wsX2_frozenCount wsX0_isFrozen := goodIn_r _ [15, 16, 26, 27, 28, 29, 30, 31, 32, 33, 34, 35, 36, 37, 38, 39, 40, 41, 42, 43] (by decide +kernel) (by decide +kernel)
set_option maxRecDepth 20000 in
theorem gX2_frozenCount_X0_isFrozen : GoodIn wsX2_frozenCount (wsV RX2 90 RX0 yX0_isFrozen wsX0_isFrozen) := goodIn_app (goodIn_of _ (by decide +kernel)) ggX2_frozenCount_X0_isFrozen
theorem dX2_frozenCount_0 : decode cX2_frozenCount 0 = .ok (.iconst 0, 1) := by decide +kernel
theorem dX2_frozenCount_1 : decode cX2_frozenCount 1 = .ok (.istore_n 1, 1) := by decide +kernel
theorem dX2_frozenCount_2 : decode cX2_frozenCount 2 = .ok (.iconst 0, 1) := by decide +kernel
theorem dX2_frozenCount_3 : decode cX2_frozenCount 3 = .ok (.istore_n 2, 1) := by decide +kernel
theorem dX2_frozenCount_4 : decode cX2_frozenCount 4 = .ok (.iload_n 2, 1) := by decide +kernel
theorem dX2_frozenCount_5 : decode cX2_frozenCount 5 = .ok (.aload_n 0, 1) := by decide +kernel
theorem dX2_frozenCount_6 : decode cX2_frozenCount 6 = .ok (.getfield 15, 3) := by decide +kernel
theorem dX2_frozenCount_9 : decode cX2_frozenCount 9 = .ok (.if_icmp .ge 29, 3) := by decide +kernel
theorem dX2_frozenCount_12 : decode cX2_frozenCount 12 = .ok (.aload_n 0, 1) := by decide +kernel
theorem dX2_frozenCount_13 : decode cX2_frozenCount 13 = .ok (.iload_n 2, 1) := by decide +kernel
theorem dX2_frozenCount_14 : decode cX2_frozenCount 14 = .ok (.invokevirtual 50, 3) := by decide +kernel
theorem dX2_frozenCount_17 : decode cX2_frozenCount 17 = .ok (.astore_n 3, 1) := by decide +kernel
theorem dX2_frozenCount_18 : decode cX2_frozenCount 18 = .ok (.aload_n 3, 1) := by decide +kernel
theorem dX2_frozenCount_19 : decode cX2_frozenCount 19 = .ok (.ifnull 13, 3) := by decide +kernel
theorem dX2_frozenCount_22 : decode cX2_frozenCount 22 = .ok (.aload_n 3, 1) := by decide +kernel
theorem dX2_frozenCount_23 : decode cX2_frozenCount 23 = .ok (.invokevirtual 90, 3) := by decide +kernel
theorem dX2_frozenCount_26 : decode cX2_frozenCount 26 = .ok (.ifCond .eq 6, 3) := by decide +kernel
theorem dX2_frozenCount_29 : decode cX2_frozenCount 29 = .ok (.iinc 1 1, 3) := by decide +kernel
theorem dX2_frozenCount_32 : decode cX2_frozenCount 32 = .ok (.iinc 2 1, 3) := by decide +kernel
theorem dX2_frozenCount_35 : decode cX2_frozenCount 35 = .ok (.goto (-31), 3) := by decide +kernel
theorem dX2_frozenCount_38 : decode cX2_frozenCount 38 = .ok (.iload_n 1, 1) := by decide +kernel
theorem dX2_frozenCount_39 : decode cX2_frozenCount 39 = .ok (.ireturn, 1) := by decide +kernel
set_option maxRecDepth 20000 in
theorem ggX2_leastFrozen_X2_checkAt : GoodIn wsX2_leastFrozen wsX2_checkAt := goodIn_r _ [6, 1, 7, 8, 9, 5, 10, 28, 29, 30, 31, 32, 33, 34, 35, 36] (by decide +kernel) (by decide +kernel)
set_option maxRecDepth 20000 in
theorem gX2_leastFrozen_X2_checkAt : GoodIn wsX2_leastFrozen (wsV RX2 50 RX2 yX2_checkAt wsX2_checkAt) := goodIn_app (goodIn_of _ (by decide +kernel)) ggX2_leastFrozen_X2_checkAt
set_option maxRecDepth 20000 in
theorem ggX2_leastFrozen_X0_isFrozen : GoodIn wsX2_leastFrozen wsX0_isFrozen := goodIn_r _ [15, 16, 37, 38, 39, 40, 41, 42, 43, 44, 45, 46, 47, 48, 49, 50, 51, 52, 53, 54] (by decide +kernel) (by decide +kernel)
set_option maxRecDepth 20000 in
theorem gX2_leastFrozen_X0_isFrozen : GoodIn wsX2_leastFrozen (wsV RX2 90 RX0 yX0_isFrozen wsX0_isFrozen) := goodIn_app (goodIn_of _ (by decide +kernel)) ggX2_leastFrozen_X0_isFrozen
set_option maxRecDepth 20000 in
theorem ggX2_leastFrozen_X0_isPermanent : GoodIn wsX2_leastFrozen wsX0_isPermanent := goodIn_r _ [20, 21, 37, 38, 39, 40, 41, 42, 43, 44, 45, 46, 47, 48, 49, 50, 51, 52, 53, 54] (by decide +kernel) (by decide +kernel)
set_option maxRecDepth 20000 in
theorem gX2_leastFrozen_X0_isPermanent : GoodIn wsX2_leastFrozen (wsV RX2 206 RX0 yX0_isPermanent wsX0_isPermanent) := goodIn_app (goodIn_of _ (by decide +kernel)) ggX2_leastFrozen_X0_isPermanent
set_option maxRecDepth 20000 in
theorem ggX2_leastFrozen_X0_goesAheadOf : GoodIn wsX2_leastFrozen wsX0_goesAheadOf := goodIn_r _ [25, 26, 27, 37, 38, 39, 40, 41, 42, 43, 44, 45, 46, 47, 48, 49, 50, 51, 52, 53, 54] (by decide +kernel) (by decide +kernel)
set_option maxRecDepth 20000 in
theorem gX2_leastFrozen_X0_goesAheadOf : GoodIn wsX2_leastFrozen (wsV RX2 209 RX0 yX0_goesAheadOf wsX0_goesAheadOf) := goodIn_app (goodIn_of _ (by decide +kernel)) ggX2_leastFrozen_X0_goesAheadOf
theorem dX2_leastFrozen_0 : decode cX2_leastFrozen 0 = .ok (.aconst_null, 1) := by decide +kernel
theorem dX2_leastFrozen_1 : decode cX2_leastFrozen 1 = .ok (.astore_n 1, 1) := by decide +kernel
theorem dX2_leastFrozen_2 : decode cX2_leastFrozen 2 = .ok (.iconst 0, 1) := by decide +kernel
theorem dX2_leastFrozen_3 : decode cX2_leastFrozen 3 = .ok (.istore_n 2, 1) := by decide +kernel
theorem dX2_leastFrozen_4 : decode cX2_leastFrozen 4 = .ok (.iload_n 2, 1) := by decide +kernel
theorem dX2_leastFrozen_5 : decode cX2_leastFrozen 5 = .ok (.aload_n 0, 1) := by decide +kernel
theorem dX2_leastFrozen_6 : decode cX2_leastFrozen 6 = .ok (.getfield 15, 3) := by decide +kernel
theorem dX2_leastFrozen_9 : decode cX2_leastFrozen 9 = .ok (.if_icmp .ge 50, 3) := by decide +kernel
theorem dX2_leastFrozen_12 : decode cX2_leastFrozen 12 = .ok (.aload_n 0, 1) := by decide +kernel
theorem dX2_leastFrozen_13 : decode cX2_leastFrozen 13 = .ok (.iload_n 2, 1) := by decide +kernel
theorem dX2_leastFrozen_14 : decode cX2_leastFrozen 14 = .ok (.invokevirtual 50, 3) := by decide +kernel
theorem dX2_leastFrozen_17 : decode cX2_leastFrozen 17 = .ok (.astore_n 3, 1) := by decide +kernel
theorem dX2_leastFrozen_18 : decode cX2_leastFrozen 18 = .ok (.aload_n 3, 1) := by decide +kernel
theorem dX2_leastFrozen_19 : decode cX2_leastFrozen 19 = .ok (.ifnull 34, 3) := by decide +kernel
theorem dX2_leastFrozen_22 : decode cX2_leastFrozen 22 = .ok (.aload_n 3, 1) := by decide +kernel
theorem dX2_leastFrozen_23 : decode cX2_leastFrozen 23 = .ok (.invokevirtual 90, 3) := by decide +kernel
theorem dX2_leastFrozen_26 : decode cX2_leastFrozen 26 = .ok (.ifCond .eq 27, 3) := by decide +kernel
theorem dX2_leastFrozen_29 : decode cX2_leastFrozen 29 = .ok (.aload_n 3, 1) := by decide +kernel
theorem dX2_leastFrozen_30 : decode cX2_leastFrozen 30 = .ok (.invokevirtual 206, 3) := by decide +kernel
theorem dX2_leastFrozen_33 : decode cX2_leastFrozen 33 = .ok (.ifCond .eq 6, 3) := by decide +kernel
theorem dX2_leastFrozen_36 : decode cX2_leastFrozen 36 = .ok (.goto 17, 3) := by decide +kernel
theorem dX2_leastFrozen_39 : decode cX2_leastFrozen 39 = .ok (.aload_n 1, 1) := by decide +kernel
theorem dX2_leastFrozen_40 : decode cX2_leastFrozen 40 = .ok (.ifnull 11, 3) := by decide +kernel
theorem dX2_leastFrozen_43 : decode cX2_leastFrozen 43 = .ok (.aload_n 3, 1) := by decide +kernel
theorem dX2_leastFrozen_44 : decode cX2_leastFrozen 44 = .ok (.aload_n 1, 1) := by decide +kernel
theorem dX2_leastFrozen_45 : decode cX2_leastFrozen 45 = .ok (.invokevirtual 209, 3) := by decide +kernel
theorem dX2_leastFrozen_48 : decode cX2_leastFrozen 48 = .ok (.ifCond .eq 5, 3) := by decide +kernel
theorem dX2_leastFrozen_51 : decode cX2_leastFrozen 51 = .ok (.aload_n 3, 1) := by decide +kernel
theorem dX2_leastFrozen_52 : decode cX2_leastFrozen 52 = .ok (.astore_n 1, 1) := by decide +kernel
theorem dX2_leastFrozen_53 : decode cX2_leastFrozen 53 = .ok (.iinc 2 1, 3) := by decide +kernel
theorem dX2_leastFrozen_56 : decode cX2_leastFrozen 56 = .ok (.goto (-52), 3) := by decide +kernel
theorem dX2_leastFrozen_59 : decode cX2_leastFrozen 59 = .ok (.aload_n 1, 1) := by decide +kernel
theorem dX2_leastFrozen_60 : decode cX2_leastFrozen 60 = .ok (.areturn, 1) := by decide +kernel
set_option maxRecDepth 20000 in
theorem ggX2_codeBits_X2_checkAt : GoodIn wsX2_codeBits wsX2_checkAt := goodIn_r _ [7, 1, 8, 9, 10, 6, 11, 12, 13, 14, 15, 16, 17, 18, 19, 20] (by decide +kernel) (by decide +kernel)
set_option maxRecDepth 20000 in
theorem gX2_codeBits_X2_checkAt : GoodIn wsX2_codeBits (wsV RX2 50 RX2 yX2_checkAt wsX2_checkAt) := goodIn_app (goodIn_of _ (by decide +kernel)) ggX2_codeBits_X2_checkAt
theorem dX2_codeBits_0 : decode cX2_codeBits 0 = .ok (.iconst 0, 1) := by decide +kernel
theorem dX2_codeBits_1 : decode cX2_codeBits 1 = .ok (.istore_n 2, 1) := by decide +kernel
theorem dX2_codeBits_2 : decode cX2_codeBits 2 = .ok (.iconst 0, 1) := by decide +kernel
theorem dX2_codeBits_3 : decode cX2_codeBits 3 = .ok (.istore_n 3, 1) := by decide +kernel
theorem dX2_codeBits_4 : decode cX2_codeBits 4 = .ok (.iload_n 3, 1) := by decide +kernel
theorem dX2_codeBits_5 : decode cX2_codeBits 5 = .ok (.aload_n 0, 1) := by decide +kernel
theorem dX2_codeBits_6 : decode cX2_codeBits 6 = .ok (.getfield 15, 3) := by decide +kernel
theorem dX2_codeBits_9 : decode cX2_codeBits 9 = .ok (.if_icmp .ge 36, 3) := by decide +kernel
theorem dX2_codeBits_12 : decode cX2_codeBits 12 = .ok (.aload_n 0, 1) := by decide +kernel
theorem dX2_codeBits_13 : decode cX2_codeBits 13 = .ok (.iload_n 3, 1) := by decide +kernel
theorem dX2_codeBits_14 : decode cX2_codeBits 14 = .ok (.invokevirtual 50, 3) := by decide +kernel
theorem dX2_codeBits_17 : decode cX2_codeBits 17 = .ok (.astore 4, 2) := by decide +kernel
theorem dX2_codeBits_19 : decode cX2_codeBits 19 = .ok (.aload 4, 2) := by decide +kernel
theorem dX2_codeBits_21 : decode cX2_codeBits 21 = .ok (.ifnull 18, 3) := by decide +kernel
theorem dX2_codeBits_24 : decode cX2_codeBits 24 = .ok (.aload 4, 2) := by decide +kernel
theorem dX2_codeBits_26 : decode cX2_codeBits 26 = .ok (.getfield 103, 3) := by decide +kernel
theorem dX2_codeBits_29 : decode cX2_codeBits 29 = .ok (.iload_n 1, 1) := by decide +kernel
theorem dX2_codeBits_30 : decode cX2_codeBits 30 = .ok (.if_icmp .ne 9, 3) := by decide +kernel
theorem dX2_codeBits_33 : decode cX2_codeBits 33 = .ok (.iload_n 2, 1) := by decide +kernel
theorem dX2_codeBits_34 : decode cX2_codeBits 34 = .ok (.iconst 1, 1) := by decide +kernel
theorem dX2_codeBits_35 : decode cX2_codeBits 35 = .ok (.iload_n 3, 1) := by decide +kernel
theorem dX2_codeBits_36 : decode cX2_codeBits 36 = .ok (.ishl, 1) := by decide +kernel
theorem dX2_codeBits_37 : decode cX2_codeBits 37 = .ok (.ior, 1) := by decide +kernel
theorem dX2_codeBits_38 : decode cX2_codeBits 38 = .ok (.istore_n 2, 1) := by decide +kernel
theorem dX2_codeBits_39 : decode cX2_codeBits 39 = .ok (.iinc 3 1, 3) := by decide +kernel
theorem dX2_codeBits_42 : decode cX2_codeBits 42 = .ok (.goto (-38), 3) := by decide +kernel
theorem dX2_codeBits_45 : decode cX2_codeBits 45 = .ok (.iload_n 2, 1) := by decide +kernel
theorem dX2_codeBits_46 : decode cX2_codeBits 46 = .ok (.ireturn, 1) := by decide +kernel
set_option maxRecDepth 20000 in
theorem ggX2_troubledBits_X2_codeBits : GoodIn wsX2_troubledBits wsX2_codeBits := goodIn_r _ [5, 6, 7, 8, 9, 10, 4, 11, 12, 13, 14, 15, 16, 17, 18, 19, 20, 21, 22, 23, 24, 25, 26, 27, 28, 29, 30, 31, 32, 33, 34, 35, 36, 37, 38, 39, 40, 41, 42] (by decide +kernel) (by decide +kernel)
set_option maxRecDepth 20000 in
theorem gX2_troubledBits_X2_codeBits : GoodIn wsX2_troubledBits (wsV RX2 123 RX2 yX2_codeBits wsX2_codeBits) := goodIn_app (goodIn_of _ (by decide +kernel)) ggX2_troubledBits_X2_codeBits
theorem dX2_troubledBits_0 : decode cX2_troubledBits 0 = .ok (.aload_n 0, 1) := by decide +kernel
theorem dX2_troubledBits_1 : decode cX2_troubledBits 1 = .ok (.iconst 1, 1) := by decide +kernel
theorem dX2_troubledBits_2 : decode cX2_troubledBits 2 = .ok (.invokevirtual 123, 3) := by decide +kernel
theorem dX2_troubledBits_5 : decode cX2_troubledBits 5 = .ok (.aload_n 0, 1) := by decide +kernel
theorem dX2_troubledBits_6 : decode cX2_troubledBits 6 = .ok (.iconst 2, 1) := by decide +kernel
theorem dX2_troubledBits_7 : decode cX2_troubledBits 7 = .ok (.invokevirtual 123, 3) := by decide +kernel
theorem dX2_troubledBits_10 : decode cX2_troubledBits 10 = .ok (.ior, 1) := by decide +kernel
theorem dX2_troubledBits_11 : decode cX2_troubledBits 11 = .ok (.ireturn, 1) := by decide +kernel
set_option maxRecDepth 20000 in
theorem ggX2_ranBits_X2_checkAt : GoodIn wsX2_ranBits wsX2_checkAt := goodIn_r _ [7, 1, 8, 9, 10, 6, 11, 12, 13, 14, 15, 16, 17, 18, 19, 20] (by decide +kernel) (by decide +kernel)
set_option maxRecDepth 20000 in
theorem gX2_ranBits_X2_checkAt : GoodIn wsX2_ranBits (wsV RX2 50 RX2 yX2_checkAt wsX2_checkAt) := goodIn_app (goodIn_of _ (by decide +kernel)) ggX2_ranBits_X2_checkAt
theorem dX2_ranBits_0 : decode cX2_ranBits 0 = .ok (.iconst 0, 1) := by decide +kernel
theorem dX2_ranBits_1 : decode cX2_ranBits 1 = .ok (.istore_n 1, 1) := by decide +kernel
theorem dX2_ranBits_2 : decode cX2_ranBits 2 = .ok (.iconst 0, 1) := by decide +kernel
theorem dX2_ranBits_3 : decode cX2_ranBits 3 = .ok (.istore_n 2, 1) := by decide +kernel
theorem dX2_ranBits_4 : decode cX2_ranBits 4 = .ok (.iload_n 2, 1) := by decide +kernel
theorem dX2_ranBits_5 : decode cX2_ranBits 5 = .ok (.aload_n 0, 1) := by decide +kernel
theorem dX2_ranBits_6 : decode cX2_ranBits 6 = .ok (.getfield 15, 3) := by decide +kernel
theorem dX2_ranBits_9 : decode cX2_ranBits 9 = .ok (.if_icmp .ge 32, 3) := by decide +kernel
theorem dX2_ranBits_12 : decode cX2_ranBits 12 = .ok (.aload_n 0, 1) := by decide +kernel
theorem dX2_ranBits_13 : decode cX2_ranBits 13 = .ok (.iload_n 2, 1) := by decide +kernel
theorem dX2_ranBits_14 : decode cX2_ranBits 14 = .ok (.invokevirtual 50, 3) := by decide +kernel
theorem dX2_ranBits_17 : decode cX2_ranBits 17 = .ok (.astore_n 3, 1) := by decide +kernel
theorem dX2_ranBits_18 : decode cX2_ranBits 18 = .ok (.aload_n 3, 1) := by decide +kernel
theorem dX2_ranBits_19 : decode cX2_ranBits 19 = .ok (.ifnull 16, 3) := by decide +kernel
theorem dX2_ranBits_22 : decode cX2_ranBits 22 = .ok (.aload_n 3, 1) := by decide +kernel
theorem dX2_ranBits_23 : decode cX2_ranBits 23 = .ok (.getfield 212, 3) := by decide +kernel
theorem dX2_ranBits_26 : decode cX2_ranBits 26 = .ok (.ifCond .eq 9, 3) := by decide +kernel
theorem dX2_ranBits_29 : decode cX2_ranBits 29 = .ok (.iload_n 1, 1) := by decide +kernel
theorem dX2_ranBits_30 : decode cX2_ranBits 30 = .ok (.iconst 1, 1) := by decide +kernel
theorem dX2_ranBits_31 : decode cX2_ranBits 31 = .ok (.iload_n 2, 1) := by decide +kernel
theorem dX2_ranBits_32 : decode cX2_ranBits 32 = .ok (.ishl, 1) := by decide +kernel
theorem dX2_ranBits_33 : decode cX2_ranBits 33 = .ok (.ior, 1) := by decide +kernel
theorem dX2_ranBits_34 : decode cX2_ranBits 34 = .ok (.istore_n 1, 1) := by decide +kernel
theorem dX2_ranBits_35 : decode cX2_ranBits 35 = .ok (.iinc 2 1, 3) := by decide +kernel
theorem dX2_ranBits_38 : decode cX2_ranBits 38 = .ok (.goto (-34), 3) := by decide +kernel
theorem dX2_ranBits_41 : decode cX2_ranBits 41 = .ok (.iload_n 1, 1) := by decide +kernel
theorem dX2_ranBits_42 : decode cX2_ranBits 42 = .ok (.ireturn, 1) := by decide +kernel
set_option maxRecDepth 20000 in
theorem ggX2_lookAtCodes_X2_ranBits : GoodIn wsX2_lookAtCodes wsX2_ranBits := goodIn_r _ [6, 7, 8, 9, 10, 11, 5, 12, 13, 14, 15, 16, 50, 51, 52, 53, 54, 55, 56, 57, 58, 59, 60, 61, 62, 63, 64, 65, 66, 67, 68, 69, 70, 71, 72, 73, 74, 75, 76] (by decide +kernel) (by decide +kernel)
set_option maxRecDepth 20000 in
theorem gX2_lookAtCodes_X2_ranBits : GoodIn wsX2_lookAtCodes (wsV RX2 120 RX2 yX2_ranBits wsX2_ranBits) := goodIn_app (goodIn_of _ (by decide +kernel)) ggX2_lookAtCodes_X2_ranBits
set_option maxRecDepth 20000 in
theorem ggX2_lookAtCodes_X2_codeBits : GoodIn wsX2_lookAtCodes wsX2_codeBits := goodIn_r _ [20, 7, 21, 9, 10, 11, 5, 12, 13, 14, 15, 16, 50, 51, 52, 53, 54, 55, 56, 57, 58, 59, 60, 61, 62, 63, 64, 65, 66, 67, 68, 69, 70, 71, 72, 73, 74, 75, 76] (by decide +kernel) (by decide +kernel)
set_option maxRecDepth 20000 in
theorem gX2_lookAtCodes_X2_codeBits : GoodIn wsX2_lookAtCodes (wsV RX2 123 RX2 yX2_codeBits wsX2_codeBits) := goodIn_app (goodIn_of _ (by decide +kernel)) ggX2_lookAtCodes_X2_codeBits
set_option maxRecDepth 20000 in
theorem ggX2_lookAtCodes_X1_look : GoodIn wsX2_lookAtCodes wsX1_look := goodIn_r _ [26, 27, 28, 29, 30, 31, 32, 33, 34, 25, 35, 36, 37, 38, 39, 40, 41, 42, 43, 44, 45, 46, 47, 48, 49, 77, 78, 79, 80, 81, 82, 83, 84, 85, 86, 87, 88, 89] (by decide +kernel) (by decide +kernel)
set_option maxRecDepth 20000 in
theorem gX2_lookAtCodes_X1_look : GoodIn wsX2_lookAtCodes (wsV RX2 215 RX1 yX1_look wsX1_look) := goodIn_app (goodIn_of _ (by decide +kernel)) ggX2_lookAtCodes_X1_look
theorem dX2_lookAtCodes_0 : decode cX2_lookAtCodes 0 = .ok (.aload_n 0, 1) := by decide +kernel
theorem dX2_lookAtCodes_1 : decode cX2_lookAtCodes 1 = .ok (.getfield 42, 3) := by decide +kernel
theorem dX2_lookAtCodes_4 : decode cX2_lookAtCodes 4 = .ok (.aload_n 0, 1) := by decide +kernel
theorem dX2_lookAtCodes_5 : decode cX2_lookAtCodes 5 = .ok (.invokevirtual 120, 3) := by decide +kernel
theorem dX2_lookAtCodes_8 : decode cX2_lookAtCodes 8 = .ok (.aload_n 0, 1) := by decide +kernel
theorem dX2_lookAtCodes_9 : decode cX2_lookAtCodes 9 = .ok (.iconst 2, 1) := by decide +kernel
theorem dX2_lookAtCodes_10 : decode cX2_lookAtCodes 10 = .ok (.invokevirtual 123, 3) := by decide +kernel
theorem dX2_lookAtCodes_13 : decode cX2_lookAtCodes 13 = .ok (.invokevirtual 215, 3) := by decide +kernel
theorem dX2_lookAtCodes_16 : decode cX2_lookAtCodes 16 = .ok (.return_, 1) := by decide +kernel
end
section
theorem dX3_init_0 : decode cX3_init 0 = .ok (.aload_n 0, 1) := by decide +kernel
theorem dX3_init_1 : decode cX3_init 1 = .ok (.invokespecial 1, 3) := by decide +kernel
theorem dX3_init_4 : decode cX3_init 4 = .ok (.aload_n 0, 1) := by decide +kernel
theorem dX3_init_5 : decode cX3_init 5 = .ok (.bipush 16, 2) := by decide +kernel
theorem dX3_init_7 : decode cX3_init 7 = .ok (.newarray .int, 2) := by decide +kernel
theorem dX3_init_9 : decode cX3_init 9 = .ok (.putfield 7, 3) := by decide +kernel
theorem dX3_init_12 : decode cX3_init 12 = .ok (.aload_n 0, 1) := by decide +kernel
theorem dX3_init_13 : decode cX3_init 13 = .ok (.bipush 16, 2) := by decide +kernel
theorem dX3_init_15 : decode cX3_init 15 = .ok (.newarray .int, 2) := by decide +kernel
theorem dX3_init_17 : decode cX3_init 17 = .ok (.putfield 13, 3) := by decide +kernel
theorem dX3_init_20 : decode cX3_init 20 = .ok (.aload_n 0, 1) := by decide +kernel
theorem dX3_init_21 : decode cX3_init 21 = .ok (.bipush 16, 2) := by decide +kernel
theorem dX3_init_23 : decode cX3_init 23 = .ok (.newarray .int, 2) := by decide +kernel
theorem dX3_init_25 : decode cX3_init 25 = .ok (.putfield 16, 3) := by decide +kernel
theorem dX3_init_28 : decode cX3_init 28 = .ok (.aload_n 0, 1) := by decide +kernel
theorem dX3_init_29 : decode cX3_init 29 = .ok (.bipush 16, 2) := by decide +kernel
theorem dX3_init_31 : decode cX3_init 31 = .ok (.newarray .int, 2) := by decide +kernel
theorem dX3_init_33 : decode cX3_init 33 = .ok (.putfield 19, 3) := by decide +kernel
theorem dX3_init_36 : decode cX3_init 36 = .ok (.aload_n 0, 1) := by decide +kernel
theorem dX3_init_37 : decode cX3_init 37 = .ok (.bipush 16, 2) := by decide +kernel
theorem dX3_init_39 : decode cX3_init 39 = .ok (.newarray .int, 2) := by decide +kernel
theorem dX3_init_41 : decode cX3_init 41 = .ok (.putfield 22, 3) := by decide +kernel
theorem dX3_init_44 : decode cX3_init 44 = .ok (.aload_n 0, 1) := by decide +kernel
theorem dX3_init_45 : decode cX3_init 45 = .ok (.bipush 16, 2) := by decide +kernel
theorem dX3_init_47 : decode cX3_init 47 = .ok (.newarray .int, 2) := by decide +kernel
theorem dX3_init_49 : decode cX3_init 49 = .ok (.putfield 25, 3) := by decide +kernel
theorem dX3_init_52 : decode cX3_init 52 = .ok (.aload_n 0, 1) := by decide +kernel
theorem dX3_init_53 : decode cX3_init 53 = .ok (.bipush 16, 2) := by decide +kernel
theorem dX3_init_55 : decode cX3_init 55 = .ok (.newarray .boolean, 2) := by decide +kernel
theorem dX3_init_57 : decode cX3_init 57 = .ok (.putfield 28, 3) := by decide +kernel
theorem dX3_init_60 : decode cX3_init 60 = .ok (.aload_n 0, 1) := by decide +kernel
theorem dX3_init_61 : decode cX3_init 61 = .ok (.bipush 16, 2) := by decide +kernel
theorem dX3_init_63 : decode cX3_init 63 = .ok (.newarray .int, 2) := by decide +kernel
theorem dX3_init_65 : decode cX3_init 65 = .ok (.putfield 32, 3) := by decide +kernel
theorem dX3_init_68 : decode cX3_init 68 = .ok (.aload_n 0, 1) := by decide +kernel
theorem dX3_init_69 : decode cX3_init 69 = .ok (.bipush 16, 2) := by decide +kernel
theorem dX3_init_71 : decode cX3_init 71 = .ok (.newarray .int, 2) := by decide +kernel
theorem dX3_init_73 : decode cX3_init 73 = .ok (.putfield 35, 3) := by decide +kernel
theorem dX3_init_76 : decode cX3_init 76 = .ok (.aload_n 0, 1) := by decide +kernel
theorem dX3_init_77 : decode cX3_init 77 = .ok (.bipush 16, 2) := by decide +kernel
theorem dX3_init_79 : decode cX3_init 79 = .ok (.newarray .int, 2) := by decide +kernel
theorem dX3_init_81 : decode cX3_init 81 = .ok (.putfield 38, 3) := by decide +kernel
theorem dX3_init_84 : decode cX3_init 84 = .ok (.aload_n 0, 1) := by decide +kernel
theorem dX3_init_85 : decode cX3_init 85 = .ok (.bipush 16, 2) := by decide +kernel
theorem dX3_init_87 : decode cX3_init 87 = .ok (.newarray .int, 2) := by decide +kernel
theorem dX3_init_89 : decode cX3_init 89 = .ok (.putfield 41, 3) := by decide +kernel
theorem dX3_init_92 : decode cX3_init 92 = .ok (.aload_n 0, 1) := by decide +kernel
theorem dX3_init_93 : decode cX3_init 93 = .ok (.bipush 16, 2) := by decide +kernel
theorem dX3_init_95 : decode cX3_init 95 = .ok (.newarray .boolean, 2) := by decide +kernel
theorem dX3_init_97 : decode cX3_init 97 = .ok (.putfield 44, 3) := by decide +kernel
theorem dX3_init_100 : decode cX3_init 100 = .ok (.aload_n 0, 1) := by decide +kernel
theorem dX3_init_101 : decode cX3_init 101 = .ok (.bipush 16, 2) := by decide +kernel
theorem dX3_init_103 : decode cX3_init 103 = .ok (.newarray .int, 2) := by decide +kernel
theorem dX3_init_105 : decode cX3_init 105 = .ok (.putfield 47, 3) := by decide +kernel
theorem dX3_init_108 : decode cX3_init 108 = .ok (.aload_n 0, 1) := by decide +kernel
theorem dX3_init_109 : decode cX3_init 109 = .ok (.bipush 16, 2) := by decide +kernel
theorem dX3_init_111 : decode cX3_init 111 = .ok (.newarray .int, 2) := by decide +kernel
theorem dX3_init_113 : decode cX3_init 113 = .ok (.putfield 50, 3) := by decide +kernel
theorem dX3_init_116 : decode cX3_init 116 = .ok (.aload_n 0, 1) := by decide +kernel
theorem dX3_init_117 : decode cX3_init 117 = .ok (.bipush 16, 2) := by decide +kernel
theorem dX3_init_119 : decode cX3_init 119 = .ok (.newarray .int, 2) := by decide +kernel
theorem dX3_init_121 : decode cX3_init 121 = .ok (.putfield 53, 3) := by decide +kernel
theorem dX3_init_124 : decode cX3_init 124 = .ok (.aload_n 0, 1) := by decide +kernel
theorem dX3_init_125 : decode cX3_init 125 = .ok (.sipush 256, 3) := by decide +kernel
theorem dX3_init_128 : decode cX3_init 128 = .ok (.newarray .int, 2) := by decide +kernel
theorem dX3_init_130 : decode cX3_init 130 = .ok (.putfield 56, 3) := by decide +kernel
theorem dX3_init_133 : decode cX3_init 133 = .ok (.aload_n 0, 1) := by decide +kernel
theorem dX3_init_134 : decode cX3_init 134 = .ok (.iconst 4, 1) := by decide +kernel
theorem dX3_init_135 : decode cX3_init 135 = .ok (.newarray .int, 2) := by decide +kernel
theorem dX3_init_137 : decode cX3_init 137 = .ok (.putfield 59, 3) := by decide +kernel
theorem dX3_init_140 : decode cX3_init 140 = .ok (.aload_n 0, 1) := by decide +kernel
theorem dX3_init_141 : decode cX3_init 141 = .ok (.bipush 8, 2) := by decide +kernel
theorem dX3_init_143 : decode cX3_init 143 = .ok (.putfield 62, 3) := by decide +kernel
theorem dX3_init_146 : decode cX3_init 146 = .ok (.aload_n 0, 1) := by decide +kernel
theorem dX3_init_147 : decode cX3_init 147 = .ok (.bipush 16, 2) := by decide +kernel
theorem dX3_init_149 : decode cX3_init 149 = .ok (.newarray .boolean, 2) := by decide +kernel
theorem dX3_init_151 : decode cX3_init 151 = .ok (.putfield 66, 3) := by decide +kernel
theorem dX3_init_154 : decode cX3_init 154 = .ok (.aload_n 0, 1) := by decide +kernel
theorem dX3_init_155 : decode cX3_init 155 = .ok (.bipush 64, 2) := by decide +kernel
theorem dX3_init_157 : decode cX3_init 157 = .ok (.newarray .int, 2) := by decide +kernel
theorem dX3_init_159 : decode cX3_init 159 = .ok (.putfield 69, 3) := by decide +kernel
theorem dX3_init_162 : decode cX3_init 162 = .ok (.aload_n 0, 1) := by decide +kernel
theorem dX3_init_163 : decode cX3_init 163 = .ok (.bipush 16, 2) := by decide +kernel
theorem dX3_init_165 : decode cX3_init 165 = .ok (.newarray .int, 2) := by decide +kernel
theorem dX3_init_167 : decode cX3_init 167 = .ok (.putfield 72, 3) := by decide +kernel
theorem dX3_init_170 : decode cX3_init 170 = .ok (.aload_n 0, 1) := by decide +kernel
theorem dX3_init_171 : decode cX3_init 171 = .ok (.bipush 16, 2) := by decide +kernel
theorem dX3_init_173 : decode cX3_init 173 = .ok (.newarray .int, 2) := by decide +kernel
theorem dX3_init_175 : decode cX3_init 175 = .ok (.putfield 75, 3) := by decide +kernel
theorem dX3_init_178 : decode cX3_init 178 = .ok (.aload_n 0, 1) := by decide +kernel
theorem dX3_init_179 : decode cX3_init 179 = .ok (.bipush 10, 2) := by decide +kernel
theorem dX3_init_181 : decode cX3_init 181 = .ok (.newarray .int, 2) := by decide +kernel
theorem dX3_init_183 : decode cX3_init 183 = .ok (.putfield 78, 3) := by decide +kernel
theorem dX3_init_186 : decode cX3_init 186 = .ok (.aload_n 0, 1) := by decide +kernel
theorem dX3_init_187 : decode cX3_init 187 = .ok (.bipush 10, 2) := by decide +kernel
theorem dX3_init_189 : decode cX3_init 189 = .ok (.newarray .int, 2) := by decide +kernel
theorem dX3_init_191 : decode cX3_init 191 = .ok (.putfield 81, 3) := by decide +kernel
theorem dX3_init_194 : decode cX3_init 194 = .ok (.aload_n 0, 1) := by decide +kernel
theorem dX3_init_195 : decode cX3_init 195 = .ok (.bipush 10, 2) := by decide +kernel
theorem dX3_init_197 : decode cX3_init 197 = .ok (.newarray .int, 2) := by decide +kernel
theorem dX3_init_199 : decode cX3_init 199 = .ok (.putfield 84, 3) := by decide +kernel
theorem dX3_init_202 : decode cX3_init 202 = .ok (.aload_n 0, 1) := by decide +kernel
theorem dX3_init_203 : decode cX3_init 203 = .ok (.sipush 1024, 3) := by decide +kernel
theorem dX3_init_206 : decode cX3_init 206 = .ok (.newarray .int, 2) := by decide +kernel
theorem dX3_init_208 : decode cX3_init 208 = .ok (.putfield 87, 3) := by decide +kernel
theorem dX3_init_211 : decode cX3_init 211 = .ok (.aload_n 0, 1) := by decide +kernel
theorem dX3_init_212 : decode cX3_init 212 = .ok (.sipush 1024, 3) := by decide +kernel
theorem dX3_init_215 : decode cX3_init 215 = .ok (.newarray .int, 2) := by decide +kernel
theorem dX3_init_217 : decode cX3_init 217 = .ok (.putfield 90, 3) := by decide +kernel
theorem dX3_init_220 : decode cX3_init 220 = .ok (.return_, 1) := by decide +kernel
theorem dX3_in_0 : decode cX3_in 0 = .ok (.iload_n 0, 1) := by decide +kernel
theorem dX3_in_1 : decode cX3_in 1 = .ok (.iload_n 1, 1) := by decide +kernel
theorem dX3_in_2 : decode cX3_in 2 = .ok (.if_icmp .lt 12, 3) := by decide +kernel
theorem dX3_in_5 : decode cX3_in 5 = .ok (.iload_n 0, 1) := by decide +kernel
theorem dX3_in_6 : decode cX3_in 6 = .ok (.iload_n 2, 1) := by decide +kernel
theorem dX3_in_7 : decode cX3_in 7 = .ok (.if_icmp .gt 7, 3) := by decide +kernel
theorem dX3_in_10 : decode cX3_in 10 = .ok (.iconst 1, 1) := by decide +kernel
theorem dX3_in_11 : decode cX3_in 11 = .ok (.goto 4, 3) := by decide +kernel
theorem dX3_in_14 : decode cX3_in 14 = .ok (.iconst 0, 1) := by decide +kernel
theorem dX3_in_15 : decode cX3_in 15 = .ok (.ireturn, 1) := by decide +kernel
set_option maxRecDepth 20000 in
theorem ggX3_isCheck_X3_in : GoodIn wsX3_isCheck wsX3_in := goodIn_r _ [5] (by decide +kernel) (by decide +kernel)
set_option maxRecDepth 20000 in
theorem gX3_isCheck_X3_in : GoodIn wsX3_isCheck (va_wsS RX3 96 yX3_in wsX3_in) := goodIn_app (goodIn_of _ (by decide +kernel)) ggX3_isCheck_X3_in
theorem dX3_isCheck_0 : decode cX3_isCheck 0 = .ok (.iload_n 1, 1) := by decide +kernel
theorem dX3_isCheck_1 : decode cX3_isCheck 1 = .ok (.iconst 0, 1) := by decide +kernel
theorem dX3_isCheck_2 : decode cX3_isCheck 2 = .ok (.aload_n 0, 1) := by decide +kernel
theorem dX3_isCheck_3 : decode cX3_isCheck 3 = .ok (.getfield 93, 3) := by decide +kernel
theorem dX3_isCheck_6 : decode cX3_isCheck 6 = .ok (.iconst 1, 1) := by decide +kernel
theorem dX3_isCheck_7 : decode cX3_isCheck 7 = .ok (.isub, 1) := by decide +kernel
theorem dX3_isCheck_8 : decode cX3_isCheck 8 = .ok (.invokestatic 96, 3) := by decide +kernel
theorem dX3_isCheck_11 : decode cX3_isCheck 11 = .ok (.ireturn, 1) := by decide +kernel
set_option maxRecDepth 20000 in
theorem ggX3_check_X3_in : GoodIn wsX3_check wsX3_in := goodIn_r _ [13] (by decide +kernel) (by decide +kernel)
set_option maxRecDepth 20000 in
theorem gX3_check_X3_in : GoodIn wsX3_check (va_wsS RX3 96 yX3_in wsX3_in) := goodIn_app (goodIn_of _ (by decide +kernel)) ggX3_check_X3_in
set_option maxRecDepth 20000 in
theorem ggX3_check_X3_isCheck : GoodIn wsX3_check wsX3_isCheck := goodIn_r _ [17, 2, 10, 11, 12, 13, 18, 19, 20, 21, 22, 23, 24, 25, 26, 27, 28, 29, 30, 31, 32, 33, 34, 35, 36, 37, 38, 39, 40, 41, 42, 43, 44, 45, 46, 47, 48, 49, 50] (by decide +kernel) (by decide +kernel)
set_option maxRecDepth 20000 in
theorem gX3_check_X3_isCheck : GoodIn wsX3_check (wsV RX3 100 RX3 yX3_isCheck wsX3_isCheck) := goodIn_app (goodIn_of _ (by decide +kernel)) ggX3_check_X3_isCheck
theorem dX3_check_0 : decode cX3_check 0 = .ok (.iload_n 1, 1) := by decide +kernel
theorem dX3_check_1 : decode cX3_check 1 = .ok (.iconst 0, 1) := by decide +kernel
theorem dX3_check_2 : decode cX3_check 2 = .ok (.iconst 2, 1) := by decide +kernel
theorem dX3_check_3 : decode cX3_check 3 = .ok (.invokestatic 96, 3) := by decide +kernel
theorem dX3_check_6 : decode cX3_check 6 = .ok (.ifCond .eq 59, 3) := by decide +kernel
theorem dX3_check_9 : decode cX3_check 9 = .ok (.iload_n 1, 1) := by decide +kernel
theorem dX3_check_10 : decode cX3_check 10 = .ok (.iconst 2, 1) := by decide +kernel
theorem dX3_check_11 : decode cX3_check 11 = .ok (.if_icmp .ne 11, 3) := by decide +kernel
theorem dX3_check_14 : decode cX3_check 14 = .ok (.aload_n 0, 1) := by decide +kernel
theorem dX3_check_15 : decode cX3_check 15 = .ok (.iload_n 2, 1) := by decide +kernel
theorem dX3_check_16 : decode cX3_check 16 = .ok (.invokevirtual 100, 3) := by decide +kernel
theorem dX3_check_19 : decode cX3_check 19 = .ok (.ifCond .eq 46, 3) := by decide +kernel
theorem dX3_check_22 : decode cX3_check 22 = .ok (.iload_n 3, 1) := by decide +kernel
theorem dX3_check_23 : decode cX3_check 23 = .ok (.iconst 1, 1) := by decide +kernel
theorem dX3_check_24 : decode cX3_check 24 = .ok (.bipush 9, 2) := by decide +kernel
theorem dX3_check_26 : decode cX3_check 26 = .ok (.invokestatic 96, 3) := by decide +kernel
theorem dX3_check_29 : decode cX3_check 29 = .ok (.ifCond .eq 36, 3) := by decide +kernel
theorem dX3_check_32 : decode cX3_check 32 = .ok (.iload 4, 2) := by decide +kernel
theorem dX3_check_34 : decode cX3_check 34 = .ok (.iconst 1, 1) := by decide +kernel
theorem dX3_check_35 : decode cX3_check 35 = .ok (.bipush 9, 2) := by decide +kernel
theorem dX3_check_37 : decode cX3_check 37 = .ok (.invokestatic 96, 3) := by decide +kernel
theorem dX3_check_40 : decode cX3_check 40 = .ok (.ifCond .eq 25, 3) := by decide +kernel
theorem dX3_check_43 : decode cX3_check 43 = .ok (.iload 5, 2) := by decide +kernel
theorem dX3_check_45 : decode cX3_check 45 = .ok (.iconst 1, 1) := by decide +kernel
theorem dX3_check_46 : decode cX3_check 46 = .ok (.bipush 90, 2) := by decide +kernel
theorem dX3_check_48 : decode cX3_check 48 = .ok (.invokestatic 96, 3) := by decide +kernel
theorem dX3_check_51 : decode cX3_check 51 = .ok (.ifCond .eq 14, 3) := by decide +kernel
theorem dX3_check_54 : decode cX3_check 54 = .ok (.iload 6, 2) := by decide +kernel
theorem dX3_check_56 : decode cX3_check 56 = .ok (.iconst 0, 1) := by decide +kernel
theorem dX3_check_57 : decode cX3_check 57 = .ok (.bipush 9, 2) := by decide +kernel
theorem dX3_check_59 : decode cX3_check 59 = .ok (.invokestatic 96, 3) := by decide +kernel
theorem dX3_check_62 : decode cX3_check 62 = .ok (.ifCond .ne 6, 3) := by decide +kernel
theorem dX3_check_65 : decode cX3_check 65 = .ok (.bipush (-2), 2) := by decide +kernel
theorem dX3_check_67 : decode cX3_check 67 = .ok (.ireturn, 1) := by decide +kernel
theorem dX3_check_68 : decode cX3_check 68 = .ok (.aload_n 0, 1) := by decide +kernel
theorem dX3_check_69 : decode cX3_check 69 = .ok (.getfield 104, 3) := by decide +kernel
theorem dX3_check_72 : decode cX3_check 72 = .ok (.ifCond .eq 6, 3) := by decide +kernel
theorem dX3_check_75 : decode cX3_check 75 = .ok (.bipush (-3), 2) := by decide +kernel
theorem dX3_check_77 : decode cX3_check 77 = .ok (.ireturn, 1) := by decide +kernel
theorem dX3_check_78 : decode cX3_check 78 = .ok (.aload_n 0, 1) := by decide +kernel
theorem dX3_check_79 : decode cX3_check 79 = .ok (.getfield 93, 3) := by decide +kernel
theorem dX3_check_82 : decode cX3_check 82 = .ok (.bipush 16, 2) := by decide +kernel
theorem dX3_check_84 : decode cX3_check 84 = .ok (.if_icmp .ne 6, 3) := by decide +kernel
theorem dX3_check_87 : decode cX3_check 87 = .ok (.bipush (-4), 2) := by decide +kernel
theorem dX3_check_89 : decode cX3_check 89 = .ok (.ireturn, 1) := by decide +kernel
theorem dX3_check_90 : decode cX3_check 90 = .ok (.aload_n 0, 1) := by decide +kernel
theorem dX3_check_91 : decode cX3_check 91 = .ok (.getfield 7, 3) := by decide +kernel
theorem dX3_check_94 : decode cX3_check 94 = .ok (.aload_n 0, 1) := by decide +kernel
theorem dX3_check_95 : decode cX3_check 95 = .ok (.getfield 93, 3) := by decide +kernel
theorem dX3_check_98 : decode cX3_check 98 = .ok (.iload_n 1, 1) := by decide +kernel
theorem dX3_check_99 : decode cX3_check 99 = .ok (.iastore, 1) := by decide +kernel
theorem dX3_check_100 : decode cX3_check 100 = .ok (.aload_n 0, 1) := by decide +kernel
theorem dX3_check_101 : decode cX3_check 101 = .ok (.getfield 13, 3) := by decide +kernel
theorem dX3_check_104 : decode cX3_check 104 = .ok (.aload_n 0, 1) := by decide +kernel
theorem dX3_check_105 : decode cX3_check 105 = .ok (.getfield 93, 3) := by decide +kernel
theorem dX3_check_108 : decode cX3_check 108 = .ok (.iload_n 2, 1) := by decide +kernel
theorem dX3_check_109 : decode cX3_check 109 = .ok (.iastore, 1) := by decide +kernel
theorem dX3_check_110 : decode cX3_check 110 = .ok (.aload_n 0, 1) := by decide +kernel
theorem dX3_check_111 : decode cX3_check 111 = .ok (.getfield 16, 3) := by decide +kernel
theorem dX3_check_114 : decode cX3_check 114 = .ok (.aload_n 0, 1) := by decide +kernel
theorem dX3_check_115 : decode cX3_check 115 = .ok (.getfield 93, 3) := by decide +kernel
theorem dX3_check_118 : decode cX3_check 118 = .ok (.iload_n 3, 1) := by decide +kernel
theorem dX3_check_119 : decode cX3_check 119 = .ok (.iastore, 1) := by decide +kernel
theorem dX3_check_120 : decode cX3_check 120 = .ok (.aload_n 0, 1) := by decide +kernel
theorem dX3_check_121 : decode cX3_check 121 = .ok (.getfield 19, 3) := by decide +kernel
theorem dX3_check_124 : decode cX3_check 124 = .ok (.aload_n 0, 1) := by decide +kernel
theorem dX3_check_125 : decode cX3_check 125 = .ok (.getfield 93, 3) := by decide +kernel
theorem dX3_check_128 : decode cX3_check 128 = .ok (.iload 4, 2) := by decide +kernel
theorem dX3_check_130 : decode cX3_check 130 = .ok (.iastore, 1) := by decide +kernel
theorem dX3_check_131 : decode cX3_check 131 = .ok (.aload_n 0, 1) := by decide +kernel
theorem dX3_check_132 : decode cX3_check 132 = .ok (.getfield 22, 3) := by decide +kernel
theorem dX3_check_135 : decode cX3_check 135 = .ok (.aload_n 0, 1) := by decide +kernel
theorem dX3_check_136 : decode cX3_check 136 = .ok (.getfield 93, 3) := by decide +kernel
theorem dX3_check_139 : decode cX3_check 139 = .ok (.iload 5, 2) := by decide +kernel
theorem dX3_check_141 : decode cX3_check 141 = .ok (.iastore, 1) := by decide +kernel
theorem dX3_check_142 : decode cX3_check 142 = .ok (.aload_n 0, 1) := by decide +kernel
theorem dX3_check_143 : decode cX3_check 143 = .ok (.getfield 25, 3) := by decide +kernel
theorem dX3_check_146 : decode cX3_check 146 = .ok (.aload_n 0, 1) := by decide +kernel
theorem dX3_check_147 : decode cX3_check 147 = .ok (.getfield 93, 3) := by decide +kernel
theorem dX3_check_150 : decode cX3_check 150 = .ok (.iload 6, 2) := by decide +kernel
theorem dX3_check_152 : decode cX3_check 152 = .ok (.iastore, 1) := by decide +kernel
theorem dX3_check_153 : decode cX3_check 153 = .ok (.aload_n 0, 1) := by decide +kernel
theorem dX3_check_154 : decode cX3_check 154 = .ok (.getfield 28, 3) := by decide +kernel
theorem dX3_check_157 : decode cX3_check 157 = .ok (.aload_n 0, 1) := by decide +kernel
theorem dX3_check_158 : decode cX3_check 158 = .ok (.getfield 93, 3) := by decide +kernel
theorem dX3_check_161 : decode cX3_check 161 = .ok (.iload 7, 2) := by decide +kernel
theorem dX3_check_163 : decode cX3_check 163 = .ok (.bastore, 1) := by decide +kernel
theorem dX3_check_164 : decode cX3_check 164 = .ok (.aload_n 0, 1) := by decide +kernel
theorem dX3_check_165 : decode cX3_check 165 = .ok (.dup, 1) := by decide +kernel
theorem dX3_check_166 : decode cX3_check 166 = .ok (.getfield 93, 3) := by decide +kernel
theorem dX3_check_169 : decode cX3_check 169 = .ok (.iconst 1, 1) := by decide +kernel
theorem dX3_check_170 : decode cX3_check 170 = .ok (.iadd, 1) := by decide +kernel
theorem dX3_check_171 : decode cX3_check 171 = .ok (.putfield 93, 3) := by decide +kernel
theorem dX3_check_174 : decode cX3_check 174 = .ok (.aload_n 0, 1) := by decide +kernel
theorem dX3_check_175 : decode cX3_check 175 = .ok (.getfield 93, 3) := by decide +kernel
theorem dX3_check_178 : decode cX3_check 178 = .ok (.iconst 1, 1) := by decide +kernel
theorem dX3_check_179 : decode cX3_check 179 = .ok (.isub, 1) := by decide +kernel
theorem dX3_check_180 : decode cX3_check 180 = .ok (.ireturn, 1) := by decide +kernel
theorem dX3_begin_0 : decode cX3_begin 0 = .ok (.aload_n 0, 1) := by decide +kernel
theorem dX3_begin_1 : decode cX3_begin 1 = .ok (.getfield 104, 3) := by decide +kernel
theorem dX3_begin_4 : decode cX3_begin 4 = .ok (.ifCond .eq 6, 3) := by decide +kernel
theorem dX3_begin_7 : decode cX3_begin 7 = .ok (.bipush (-3), 2) := by decide +kernel
theorem dX3_begin_9 : decode cX3_begin 9 = .ok (.ireturn, 1) := by decide +kernel
theorem dX3_begin_10 : decode cX3_begin 10 = .ok (.aload_n 0, 1) := by decide +kernel
theorem dX3_begin_11 : decode cX3_begin 11 = .ok (.iconst 1, 1) := by decide +kernel
theorem dX3_begin_12 : decode cX3_begin 12 = .ok (.putfield 104, 3) := by decide +kernel
theorem dX3_begin_15 : decode cX3_begin 15 = .ok (.iconst 0, 1) := by decide +kernel
theorem dX3_begin_16 : decode cX3_begin 16 = .ok (.istore_n 1, 1) := by decide +kernel
theorem dX3_begin_17 : decode cX3_begin 17 = .ok (.iload_n 1, 1) := by decide +kernel
theorem dX3_begin_18 : decode cX3_begin 18 = .ok (.aload_n 0, 1) := by decide +kernel
theorem dX3_begin_19 : decode cX3_begin 19 = .ok (.getfield 93, 3) := by decide +kernel
theorem dX3_begin_22 : decode cX3_begin 22 = .ok (.if_icmp .ge 28, 3) := by decide +kernel
theorem dX3_begin_25 : decode cX3_begin 25 = .ok (.aload_n 0, 1) := by decide +kernel
theorem dX3_begin_26 : decode cX3_begin 26 = .ok (.getfield 47, 3) := by decide +kernel
theorem dX3_begin_29 : decode cX3_begin 29 = .ok (.iload_n 1, 1) := by decide +kernel
theorem dX3_begin_30 : decode cX3_begin 30 = .ok (.aload_n 0, 1) := by decide +kernel
theorem dX3_begin_31 : decode cX3_begin 31 = .ok (.getfield 32, 3) := by decide +kernel
theorem dX3_begin_34 : decode cX3_begin 34 = .ok (.iload_n 1, 1) := by decide +kernel
theorem dX3_begin_35 : decode cX3_begin 35 = .ok (.iaload, 1) := by decide +kernel
theorem dX3_begin_36 : decode cX3_begin 36 = .ok (.iastore, 1) := by decide +kernel
theorem dX3_begin_37 : decode cX3_begin 37 = .ok (.aload_n 0, 1) := by decide +kernel
theorem dX3_begin_38 : decode cX3_begin 38 = .ok (.getfield 50, 3) := by decide +kernel
theorem dX3_begin_41 : decode cX3_begin 41 = .ok (.iload_n 1, 1) := by decide +kernel
theorem dX3_begin_42 : decode cX3_begin 42 = .ok (.iconst 0, 1) := by decide +kernel
theorem dX3_begin_43 : decode cX3_begin 43 = .ok (.iastore, 1) := by decide +kernel
theorem dX3_begin_44 : decode cX3_begin 44 = .ok (.iinc 1 1, 3) := by decide +kernel
theorem dX3_begin_47 : decode cX3_begin 47 = .ok (.goto (-30), 3) := by decide +kernel
theorem dX3_begin_50 : decode cX3_begin 50 = .ok (.aload_n 0, 1) := by decide +kernel
theorem dX3_begin_51 : decode cX3_begin 51 = .ok (.getfield 108, 3) := by decide +kernel
theorem dX3_begin_54 : decode cX3_begin 54 = .ok (.ireturn, 1) := by decide +kernel
set_option maxRecDepth 20000 in
theorem ggX3_ran_X3_isCheck : GoodIn wsX3_ran wsX3_isCheck := goodIn_r _ [7, 8, 9, 10, 6, 11, 12, 13, 14, 15, 16, 17, 18, 19, 20, 21, 22, 23, 24, 25, 26, 27, 28, 29, 30, 31, 32, 33, 34, 35, 36, 37, 38, 39, 40, 41, 42, 43, 44] (by decide +kernel) (by decide +kernel)
set_option maxRecDepth 20000 in
theorem gX3_ran_X3_isCheck : GoodIn wsX3_ran (wsV RX3 100 RX3 yX3_isCheck wsX3_isCheck) := goodIn_app (goodIn_of _ (by decide +kernel)) ggX3_ran_X3_isCheck
theorem dX3_ran_0 : decode cX3_ran 0 = .ok (.aload_n 0, 1) := by decide +kernel
theorem dX3_ran_1 : decode cX3_ran 1 = .ok (.iload_n 1, 1) := by decide +kernel
theorem dX3_ran_2 : decode cX3_ran 2 = .ok (.invokevirtual 100, 3) := by decide +kernel
theorem dX3_ran_5 : decode cX3_ran 5 = .ok (.ifCond .ne 6, 3) := by decide +kernel
theorem dX3_ran_8 : decode cX3_ran 8 = .ok (.bipush (-2), 2) := by decide +kernel
theorem dX3_ran_10 : decode cX3_ran 10 = .ok (.ireturn, 1) := by decide +kernel
theorem dX3_ran_11 : decode cX3_ran 11 = .ok (.aload_n 0, 1) := by decide +kernel
theorem dX3_ran_12 : decode cX3_ran 12 = .ok (.getfield 104, 3) := by decide +kernel
theorem dX3_ran_15 : decode cX3_ran 15 = .ok (.ifCond .ne 6, 3) := by decide +kernel
theorem dX3_ran_18 : decode cX3_ran 18 = .ok (.bipush (-3), 2) := by decide +kernel
theorem dX3_ran_20 : decode cX3_ran 20 = .ok (.ireturn, 1) := by decide +kernel
theorem dX3_ran_21 : decode cX3_ran 21 = .ok (.aload_n 0, 1) := by decide +kernel
theorem dX3_ran_22 : decode cX3_ran 22 = .ok (.getfield 50, 3) := by decide +kernel
theorem dX3_ran_25 : decode cX3_ran 25 = .ok (.iload_n 1, 1) := by decide +kernel
theorem dX3_ran_26 : decode cX3_ran 26 = .ok (.iload_n 2, 1) := by decide +kernel
theorem dX3_ran_27 : decode cX3_ran 27 = .ok (.ifCond .eq 7, 3) := by decide +kernel
theorem dX3_ran_30 : decode cX3_ran 30 = .ok (.iconst 2, 1) := by decide +kernel
theorem dX3_ran_31 : decode cX3_ran 31 = .ok (.goto 18, 3) := by decide +kernel
theorem dX3_ran_34 : decode cX3_ran 34 = .ok (.aload_n 0, 1) := by decide +kernel
theorem dX3_ran_35 : decode cX3_ran 35 = .ok (.getfield 50, 3) := by decide +kernel
theorem dX3_ran_38 : decode cX3_ran 38 = .ok (.iload_n 1, 1) := by decide +kernel
theorem dX3_ran_39 : decode cX3_ran 39 = .ok (.iaload, 1) := by decide +kernel
theorem dX3_ran_40 : decode cX3_ran 40 = .ok (.iconst 2, 1) := by decide +kernel
theorem dX3_ran_41 : decode cX3_ran 41 = .ok (.if_icmp .ne 7, 3) := by decide +kernel
theorem dX3_ran_44 : decode cX3_ran 44 = .ok (.iconst 2, 1) := by decide +kernel
theorem dX3_ran_45 : decode cX3_ran 45 = .ok (.goto 4, 3) := by decide +kernel
theorem dX3_ran_48 : decode cX3_ran 48 = .ok (.iconst 1, 1) := by decide +kernel
theorem dX3_ran_49 : decode cX3_ran 49 = .ok (.iastore, 1) := by decide +kernel
theorem dX3_ran_50 : decode cX3_ran 50 = .ok (.iconst 1, 1) := by decide +kernel
theorem dX3_ran_51 : decode cX3_ran 51 = .ok (.ireturn, 1) := by decide +kernel
theorem dX3_isHeld_0 : decode cX3_isHeld 0 = .ok (.aload_n 0, 1) := by decide +kernel
theorem dX3_isHeld_1 : decode cX3_isHeld 1 = .ok (.getfield 7, 3) := by decide +kernel
theorem dX3_isHeld_4 : decode cX3_isHeld 4 = .ok (.iload_n 1, 1) := by decide +kernel
theorem dX3_isHeld_5 : decode cX3_isHeld 5 = .ok (.iaload, 1) := by decide +kernel
theorem dX3_isHeld_6 : decode cX3_isHeld 6 = .ok (.iconst 2, 1) := by decide +kernel
theorem dX3_isHeld_7 : decode cX3_isHeld 7 = .ok (.if_icmp .ne 37, 3) := by decide +kernel
theorem dX3_isHeld_10 : decode cX3_isHeld 10 = .ok (.aload_n 0, 1) := by decide +kernel
theorem dX3_isHeld_11 : decode cX3_isHeld 11 = .ok (.getfield 32, 3) := by decide +kernel
theorem dX3_isHeld_14 : decode cX3_isHeld 14 = .ok (.aload_n 0, 1) := by decide +kernel
theorem dX3_isHeld_15 : decode cX3_isHeld 15 = .ok (.getfield 13, 3) := by decide +kernel
theorem dX3_isHeld_18 : decode cX3_isHeld 18 = .ok (.iload_n 1, 1) := by decide +kernel
theorem dX3_isHeld_19 : decode cX3_isHeld 19 = .ok (.iaload, 1) := by decide +kernel
theorem dX3_isHeld_20 : decode cX3_isHeld 20 = .ok (.iaload, 1) := by decide +kernel
theorem dX3_isHeld_21 : decode cX3_isHeld 21 = .ok (.iconst 1, 1) := by decide +kernel
theorem dX3_isHeld_22 : decode cX3_isHeld 22 = .ok (.if_icmp .eq 18, 3) := by decide +kernel
theorem dX3_isHeld_25 : decode cX3_isHeld 25 = .ok (.aload_n 0, 1) := by decide +kernel
theorem dX3_isHeld_26 : decode cX3_isHeld 26 = .ok (.getfield 32, 3) := by decide +kernel
theorem dX3_isHeld_29 : decode cX3_isHeld 29 = .ok (.aload_n 0, 1) := by decide +kernel
theorem dX3_isHeld_30 : decode cX3_isHeld 30 = .ok (.getfield 13, 3) := by decide +kernel
theorem dX3_isHeld_33 : decode cX3_isHeld 33 = .ok (.iload_n 1, 1) := by decide +kernel
theorem dX3_isHeld_34 : decode cX3_isHeld 34 = .ok (.iaload, 1) := by decide +kernel
theorem dX3_isHeld_35 : decode cX3_isHeld 35 = .ok (.iaload, 1) := by decide +kernel
theorem dX3_isHeld_36 : decode cX3_isHeld 36 = .ok (.iconst 2, 1) := by decide +kernel
theorem dX3_isHeld_37 : decode cX3_isHeld 37 = .ok (.if_icmp .ne 7, 3) := by decide +kernel
theorem dX3_isHeld_40 : decode cX3_isHeld 40 = .ok (.iconst 1, 1) := by decide +kernel
theorem dX3_isHeld_41 : decode cX3_isHeld 41 = .ok (.goto 4, 3) := by decide +kernel
theorem dX3_isHeld_44 : decode cX3_isHeld 44 = .ok (.iconst 0, 1) := by decide +kernel
theorem dX3_isHeld_45 : decode cX3_isHeld 45 = .ok (.ireturn, 1) := by decide +kernel
theorem dX3_manyFrozen_0 : decode cX3_manyFrozen 0 = .ok (.iconst 0, 1) := by decide +kernel
theorem dX3_manyFrozen_1 : decode cX3_manyFrozen 1 = .ok (.istore_n 1, 1) := by decide +kernel
theorem dX3_manyFrozen_2 : decode cX3_manyFrozen 2 = .ok (.iconst 0, 1) := by decide +kernel
theorem dX3_manyFrozen_3 : decode cX3_manyFrozen 3 = .ok (.istore_n 2, 1) := by decide +kernel
theorem dX3_manyFrozen_4 : decode cX3_manyFrozen 4 = .ok (.iload_n 2, 1) := by decide +kernel
theorem dX3_manyFrozen_5 : decode cX3_manyFrozen 5 = .ok (.aload_n 0, 1) := by decide +kernel
theorem dX3_manyFrozen_6 : decode cX3_manyFrozen 6 = .ok (.getfield 93, 3) := by decide +kernel
theorem dX3_manyFrozen_9 : decode cX3_manyFrozen 9 = .ok (.if_icmp .ge 26, 3) := by decide +kernel
theorem dX3_manyFrozen_12 : decode cX3_manyFrozen 12 = .ok (.iload_n 1, 1) := by decide +kernel
theorem dX3_manyFrozen_13 : decode cX3_manyFrozen 13 = .ok (.aload_n 0, 1) := by decide +kernel
theorem dX3_manyFrozen_14 : decode cX3_manyFrozen 14 = .ok (.getfield 66, 3) := by decide +kernel
theorem dX3_manyFrozen_17 : decode cX3_manyFrozen 17 = .ok (.iload_n 2, 1) := by decide +kernel
theorem dX3_manyFrozen_18 : decode cX3_manyFrozen 18 = .ok (.baload, 1) := by decide +kernel
theorem dX3_manyFrozen_19 : decode cX3_manyFrozen 19 = .ok (.ifCond .eq 7, 3) := by decide +kernel
theorem dX3_manyFrozen_22 : decode cX3_manyFrozen 22 = .ok (.iconst 1, 1) := by decide +kernel
theorem dX3_manyFrozen_23 : decode cX3_manyFrozen 23 = .ok (.goto 4, 3) := by decide +kernel
theorem dX3_manyFrozen_26 : decode cX3_manyFrozen 26 = .ok (.iconst 0, 1) := by decide +kernel
theorem dX3_manyFrozen_27 : decode cX3_manyFrozen 27 = .ok (.iadd, 1) := by decide +kernel
theorem dX3_manyFrozen_28 : decode cX3_manyFrozen 28 = .ok (.istore_n 1, 1) := by decide +kernel
theorem dX3_manyFrozen_29 : decode cX3_manyFrozen 29 = .ok (.iinc 2 1, 3) := by decide +kernel
theorem dX3_manyFrozen_32 : decode cX3_manyFrozen 32 = .ok (.goto (-28), 3) := by decide +kernel
theorem dX3_manyFrozen_35 : decode cX3_manyFrozen 35 = .ok (.iload_n 1, 1) := by decide +kernel
theorem dX3_manyFrozen_36 : decode cX3_manyFrozen 36 = .ok (.ireturn, 1) := by decide +kernel
theorem dX3_leastFrozen_0 : decode cX3_leastFrozen 0 = .ok (.iconst (-1), 1) := by decide +kernel
theorem dX3_leastFrozen_1 : decode cX3_leastFrozen 1 = .ok (.istore_n 1, 1) := by decide +kernel
theorem dX3_leastFrozen_2 : decode cX3_leastFrozen 2 = .ok (.iconst 0, 1) := by decide +kernel
theorem dX3_leastFrozen_3 : decode cX3_leastFrozen 3 = .ok (.istore_n 2, 1) := by decide +kernel
theorem dX3_leastFrozen_4 : decode cX3_leastFrozen 4 = .ok (.iload_n 2, 1) := by decide +kernel
theorem dX3_leastFrozen_5 : decode cX3_leastFrozen 5 = .ok (.aload_n 0, 1) := by decide +kernel
theorem dX3_leastFrozen_6 : decode cX3_leastFrozen 6 = .ok (.getfield 93, 3) := by decide +kernel
theorem dX3_leastFrozen_9 : decode cX3_leastFrozen 9 = .ok (.if_icmp .ge 80, 3) := by decide +kernel
theorem dX3_leastFrozen_12 : decode cX3_leastFrozen 12 = .ok (.aload_n 0, 1) := by decide +kernel
theorem dX3_leastFrozen_13 : decode cX3_leastFrozen 13 = .ok (.getfield 66, 3) := by decide +kernel
theorem dX3_leastFrozen_16 : decode cX3_leastFrozen 16 = .ok (.iload_n 2, 1) := by decide +kernel
theorem dX3_leastFrozen_17 : decode cX3_leastFrozen 17 = .ok (.baload, 1) := by decide +kernel
theorem dX3_leastFrozen_18 : decode cX3_leastFrozen 18 = .ok (.ifCond .eq 65, 3) := by decide +kernel
theorem dX3_leastFrozen_21 : decode cX3_leastFrozen 21 = .ok (.aload_n 0, 1) := by decide +kernel
theorem dX3_leastFrozen_22 : decode cX3_leastFrozen 22 = .ok (.getfield 7, 3) := by decide +kernel
theorem dX3_leastFrozen_25 : decode cX3_leastFrozen 25 = .ok (.iload_n 2, 1) := by decide +kernel
theorem dX3_leastFrozen_26 : decode cX3_leastFrozen 26 = .ok (.iaload, 1) := by decide +kernel
theorem dX3_leastFrozen_27 : decode cX3_leastFrozen 27 = .ok (.iconst 1, 1) := by decide +kernel
theorem dX3_leastFrozen_28 : decode cX3_leastFrozen 28 = .ok (.if_icmp .eq 55, 3) := by decide +kernel
theorem dX3_leastFrozen_31 : decode cX3_leastFrozen 31 = .ok (.iload_n 1, 1) := by decide +kernel
theorem dX3_leastFrozen_32 : decode cX3_leastFrozen 32 = .ok (.iconst (-1), 1) := by decide +kernel
theorem dX3_leastFrozen_33 : decode cX3_leastFrozen 33 = .ok (.if_icmp .eq 48, 3) := by decide +kernel
theorem dX3_leastFrozen_36 : decode cX3_leastFrozen 36 = .ok (.aload_n 0, 1) := by decide +kernel
theorem dX3_leastFrozen_37 : decode cX3_leastFrozen 37 = .ok (.getfield 25, 3) := by decide +kernel
theorem dX3_leastFrozen_40 : decode cX3_leastFrozen 40 = .ok (.iload_n 2, 1) := by decide +kernel
theorem dX3_leastFrozen_41 : decode cX3_leastFrozen 41 = .ok (.iaload, 1) := by decide +kernel
theorem dX3_leastFrozen_42 : decode cX3_leastFrozen 42 = .ok (.aload_n 0, 1) := by decide +kernel
theorem dX3_leastFrozen_43 : decode cX3_leastFrozen 43 = .ok (.getfield 25, 3) := by decide +kernel
theorem dX3_leastFrozen_46 : decode cX3_leastFrozen 46 = .ok (.iload_n 1, 1) := by decide +kernel
theorem dX3_leastFrozen_47 : decode cX3_leastFrozen 47 = .ok (.iaload, 1) := by decide +kernel
theorem dX3_leastFrozen_48 : decode cX3_leastFrozen 48 = .ok (.if_icmp .lt 33, 3) := by decide +kernel
theorem dX3_leastFrozen_51 : decode cX3_leastFrozen 51 = .ok (.aload_n 0, 1) := by decide +kernel
theorem dX3_leastFrozen_52 : decode cX3_leastFrozen 52 = .ok (.getfield 25, 3) := by decide +kernel
theorem dX3_leastFrozen_55 : decode cX3_leastFrozen 55 = .ok (.iload_n 2, 1) := by decide +kernel
theorem dX3_leastFrozen_56 : decode cX3_leastFrozen 56 = .ok (.iaload, 1) := by decide +kernel
theorem dX3_leastFrozen_57 : decode cX3_leastFrozen 57 = .ok (.aload_n 0, 1) := by decide +kernel
theorem dX3_leastFrozen_58 : decode cX3_leastFrozen 58 = .ok (.getfield 25, 3) := by decide +kernel
theorem dX3_leastFrozen_61 : decode cX3_leastFrozen 61 = .ok (.iload_n 1, 1) := by decide +kernel
theorem dX3_leastFrozen_62 : decode cX3_leastFrozen 62 = .ok (.iaload, 1) := by decide +kernel
theorem dX3_leastFrozen_63 : decode cX3_leastFrozen 63 = .ok (.if_icmp .ne 20, 3) := by decide +kernel
theorem dX3_leastFrozen_66 : decode cX3_leastFrozen 66 = .ok (.aload_n 0, 1) := by decide +kernel
theorem dX3_leastFrozen_67 : decode cX3_leastFrozen 67 = .ok (.getfield 75, 3) := by decide +kernel
theorem dX3_leastFrozen_70 : decode cX3_leastFrozen 70 = .ok (.iload_n 2, 1) := by decide +kernel
theorem dX3_leastFrozen_71 : decode cX3_leastFrozen 71 = .ok (.iaload, 1) := by decide +kernel
theorem dX3_leastFrozen_72 : decode cX3_leastFrozen 72 = .ok (.aload_n 0, 1) := by decide +kernel
theorem dX3_leastFrozen_73 : decode cX3_leastFrozen 73 = .ok (.getfield 75, 3) := by decide +kernel
theorem dX3_leastFrozen_76 : decode cX3_leastFrozen 76 = .ok (.iload_n 1, 1) := by decide +kernel
theorem dX3_leastFrozen_77 : decode cX3_leastFrozen 77 = .ok (.iaload, 1) := by decide +kernel
theorem dX3_leastFrozen_78 : decode cX3_leastFrozen 78 = .ok (.if_icmp .ge 5, 3) := by decide +kernel
theorem dX3_leastFrozen_81 : decode cX3_leastFrozen 81 = .ok (.iload_n 2, 1) := by decide +kernel
theorem dX3_leastFrozen_82 : decode cX3_leastFrozen 82 = .ok (.istore_n 1, 1) := by decide +kernel
theorem dX3_leastFrozen_83 : decode cX3_leastFrozen 83 = .ok (.iinc 2 1, 3) := by decide +kernel
theorem dX3_leastFrozen_86 : decode cX3_leastFrozen 86 = .ok (.goto (-82), 3) := by decide +kernel
theorem dX3_leastFrozen_89 : decode cX3_leastFrozen 89 = .ok (.iload_n 1, 1) := by decide +kernel
theorem dX3_leastFrozen_90 : decode cX3_leastFrozen 90 = .ok (.ireturn, 1) := by decide +kernel
set_option maxRecDepth 20000 in
theorem ggX3_freezes_X3_manyFrozen : GoodIn wsX3_freezes wsX3_manyFrozen := goodIn_r _ [13, 14, 1, 21, 22, 23, 24, 25, 26, 27, 28, 29, 30, 31, 32, 33, 34, 35, 36, 37, 38, 39, 40, 41, 42, 43, 44, 45, 46, 47, 48, 49, 50, 51, 52, 53] (by decide +kernel) (by decide +kernel)
set_option maxRecDepth 20000 in
theorem gX3_freezes_X3_manyFrozen : GoodIn wsX3_freezes (wsV RX3 114 RX3 yX3_manyFrozen wsX3_manyFrozen) := goodIn_app (goodIn_of _ (by decide +kernel)) ggX3_freezes_X3_manyFrozen
set_option maxRecDepth 20000 in
theorem ggX3_freezes_X3_leastFrozen : GoodIn wsX3_freezes wsX3_leastFrozen := goodIn_r _ [18, 14, 1, 19, 20, 4, 21, 22, 23, 24, 25, 26, 27, 28, 29, 30, 31, 32, 33, 34, 35, 36, 37, 38, 39, 40, 41, 42, 43, 44, 45, 46, 47, 48, 49, 50, 51, 52, 53] (by decide +kernel) (by decide +kernel)
set_option maxRecDepth 20000 in
theorem gX3_freezes_X3_leastFrozen : GoodIn wsX3_freezes (wsV RX3 118 RX3 yX3_leastFrozen wsX3_leastFrozen) := goodIn_app (goodIn_of _ (by decide +kernel)) ggX3_freezes_X3_leastFrozen
theorem dX3_freezes_0 : decode cX3_freezes 0 = .ok (.aload_n 0, 1) := by decide +kernel
theorem dX3_freezes_1 : decode cX3_freezes 1 = .ok (.getfield 66, 3) := by decide +kernel
theorem dX3_freezes_4 : decode cX3_freezes 4 = .ok (.iload_n 1, 1) := by decide +kernel
theorem dX3_freezes_5 : decode cX3_freezes 5 = .ok (.iconst 1, 1) := by decide +kernel
theorem dX3_freezes_6 : decode cX3_freezes 6 = .ok (.bastore, 1) := by decide +kernel
theorem dX3_freezes_7 : decode cX3_freezes 7 = .ok (.aload_n 0, 1) := by decide +kernel
theorem dX3_freezes_8 : decode cX3_freezes 8 = .ok (.getfield 72, 3) := by decide +kernel
theorem dX3_freezes_11 : decode cX3_freezes 11 = .ok (.iload_n 1, 1) := by decide +kernel
theorem dX3_freezes_12 : decode cX3_freezes 12 = .ok (.aload_n 0, 1) := by decide +kernel
theorem dX3_freezes_13 : decode cX3_freezes 13 = .ok (.getfield 108, 3) := by decide +kernel
theorem dX3_freezes_16 : decode cX3_freezes 16 = .ok (.iastore, 1) := by decide +kernel
theorem dX3_freezes_17 : decode cX3_freezes 17 = .ok (.aload_n 0, 1) := by decide +kernel
theorem dX3_freezes_18 : decode cX3_freezes 18 = .ok (.getfield 75, 3) := by decide +kernel
theorem dX3_freezes_21 : decode cX3_freezes 21 = .ok (.iload_n 1, 1) := by decide +kernel
theorem dX3_freezes_22 : decode cX3_freezes 22 = .ok (.aload_n 0, 1) := by decide +kernel
theorem dX3_freezes_23 : decode cX3_freezes 23 = .ok (.getfield 111, 3) := by decide +kernel
theorem dX3_freezes_26 : decode cX3_freezes 26 = .ok (.iastore, 1) := by decide +kernel
theorem dX3_freezes_27 : decode cX3_freezes 27 = .ok (.aload_n 0, 1) := by decide +kernel
theorem dX3_freezes_28 : decode cX3_freezes 28 = .ok (.dup, 1) := by decide +kernel
theorem dX3_freezes_29 : decode cX3_freezes 29 = .ok (.getfield 111, 3) := by decide +kernel
theorem dX3_freezes_32 : decode cX3_freezes 32 = .ok (.iconst 1, 1) := by decide +kernel
theorem dX3_freezes_33 : decode cX3_freezes 33 = .ok (.iadd, 1) := by decide +kernel
theorem dX3_freezes_34 : decode cX3_freezes 34 = .ok (.putfield 111, 3) := by decide +kernel
theorem dX3_freezes_37 : decode cX3_freezes 37 = .ok (.iconst 0, 1) := by decide +kernel
theorem dX3_freezes_38 : decode cX3_freezes 38 = .ok (.istore_n 2, 1) := by decide +kernel
theorem dX3_freezes_39 : decode cX3_freezes 39 = .ok (.iload_n 2, 1) := by decide +kernel
theorem dX3_freezes_40 : decode cX3_freezes 40 = .ok (.iconst 4, 1) := by decide +kernel
theorem dX3_freezes_41 : decode cX3_freezes 41 = .ok (.if_icmp .ge 25, 3) := by decide +kernel
theorem dX3_freezes_44 : decode cX3_freezes 44 = .ok (.aload_n 0, 1) := by decide +kernel
theorem dX3_freezes_45 : decode cX3_freezes 45 = .ok (.getfield 69, 3) := by decide +kernel
theorem dX3_freezes_48 : decode cX3_freezes 48 = .ok (.iconst 4, 1) := by decide +kernel
theorem dX3_freezes_49 : decode cX3_freezes 49 = .ok (.iload_n 1, 1) := by decide +kernel
theorem dX3_freezes_50 : decode cX3_freezes 50 = .ok (.imul, 1) := by decide +kernel
theorem dX3_freezes_51 : decode cX3_freezes 51 = .ok (.iload_n 2, 1) := by decide +kernel
theorem dX3_freezes_52 : decode cX3_freezes 52 = .ok (.iadd, 1) := by decide +kernel
theorem dX3_freezes_53 : decode cX3_freezes 53 = .ok (.aload_n 0, 1) := by decide +kernel
theorem dX3_freezes_54 : decode cX3_freezes 54 = .ok (.getfield 59, 3) := by decide +kernel
theorem dX3_freezes_57 : decode cX3_freezes 57 = .ok (.iload_n 2, 1) := by decide +kernel
theorem dX3_freezes_58 : decode cX3_freezes 58 = .ok (.iaload, 1) := by decide +kernel
theorem dX3_freezes_59 : decode cX3_freezes 59 = .ok (.iastore, 1) := by decide +kernel
theorem dX3_freezes_60 : decode cX3_freezes 60 = .ok (.iinc 2 1, 3) := by decide +kernel
theorem dX3_freezes_63 : decode cX3_freezes 63 = .ok (.goto (-24), 3) := by decide +kernel
theorem dX3_freezes_66 : decode cX3_freezes 66 = .ok (.aload_n 0, 1) := by decide +kernel
theorem dX3_freezes_67 : decode cX3_freezes 67 = .ok (.invokevirtual 114, 3) := by decide +kernel
theorem dX3_freezes_70 : decode cX3_freezes 70 = .ok (.aload_n 0, 1) := by decide +kernel
theorem dX3_freezes_71 : decode cX3_freezes 71 = .ok (.getfield 62, 3) := by decide +kernel
theorem dX3_freezes_74 : decode cX3_freezes 74 = .ok (.if_icmp .le 24, 3) := by decide +kernel
theorem dX3_freezes_77 : decode cX3_freezes 77 = .ok (.aload_n 0, 1) := by decide +kernel
theorem dX3_freezes_78 : decode cX3_freezes 78 = .ok (.invokevirtual 118, 3) := by decide +kernel
theorem dX3_freezes_81 : decode cX3_freezes 81 = .ok (.istore_n 2, 1) := by decide +kernel
theorem dX3_freezes_82 : decode cX3_freezes 82 = .ok (.aload_n 0, 1) := by decide +kernel
theorem dX3_freezes_83 : decode cX3_freezes 83 = .ok (.getfield 66, 3) := by decide +kernel
theorem dX3_freezes_86 : decode cX3_freezes 86 = .ok (.iload_n 2, 1) := by decide +kernel
theorem dX3_freezes_87 : decode cX3_freezes 87 = .ok (.iconst (-1), 1) := by decide +kernel
theorem dX3_freezes_88 : decode cX3_freezes 88 = .ok (.if_icmp .ne 7, 3) := by decide +kernel
theorem dX3_freezes_91 : decode cX3_freezes 91 = .ok (.iload_n 1, 1) := by decide +kernel
theorem dX3_freezes_92 : decode cX3_freezes 92 = .ok (.goto 4, 3) := by decide +kernel
theorem dX3_freezes_95 : decode cX3_freezes 95 = .ok (.iload_n 2, 1) := by decide +kernel
theorem dX3_freezes_96 : decode cX3_freezes 96 = .ok (.iconst 0, 1) := by decide +kernel
theorem dX3_freezes_97 : decode cX3_freezes 97 = .ok (.bastore, 1) := by decide +kernel
theorem dX3_freezes_98 : decode cX3_freezes 98 = .ok (.return_, 1) := by decide +kernel
set_option maxRecDepth 20000 in
theorem ggX3_room_X3_in : GoodIn wsX3_room wsX3_in := goodIn_r _ [6] (by decide +kernel) (by decide +kernel)
set_option maxRecDepth 20000 in
theorem gX3_room_X3_in : GoodIn wsX3_room (va_wsS RX3 96 yX3_in wsX3_in) := goodIn_app (goodIn_of _ (by decide +kernel)) ggX3_room_X3_in
set_option maxRecDepth 20000 in
theorem ggX3_room_X3_manyFrozen : GoodIn wsX3_room wsX3_manyFrozen := goodIn_r _ [10, 11, 2, 19, 20, 21, 22, 23, 24, 25, 26, 27, 28, 29, 30, 31, 32, 33, 34, 35, 36, 37, 38, 39, 40, 41, 42, 43, 44, 45, 46, 47, 48, 49, 50, 51] (by decide +kernel) (by decide +kernel)
set_option maxRecDepth 20000 in
theorem gX3_room_X3_manyFrozen : GoodIn wsX3_room (wsV RX3 114 RX3 yX3_manyFrozen wsX3_manyFrozen) := goodIn_app (goodIn_of _ (by decide +kernel)) ggX3_room_X3_manyFrozen
set_option maxRecDepth 20000 in
theorem ggX3_room_X3_leastFrozen : GoodIn wsX3_room wsX3_leastFrozen := goodIn_r _ [15, 11, 2, 16, 17, 18, 19, 20, 21, 22, 23, 24, 25, 26, 27, 28, 29, 30, 31, 32, 33, 34, 35, 36, 37, 38, 39, 40, 41, 42, 43, 44, 45, 46, 47, 48, 49, 50, 51] (by decide +kernel) (by decide +kernel)
set_option maxRecDepth 20000 in
theorem gX3_room_X3_leastFrozen : GoodIn wsX3_room (wsV RX3 118 RX3 yX3_leastFrozen wsX3_leastFrozen) := goodIn_app (goodIn_of _ (by decide +kernel)) ggX3_room_X3_leastFrozen
theorem dX3_room_0 : decode cX3_room 0 = .ok (.iload_n 1, 1) := by decide +kernel
theorem dX3_room_1 : decode cX3_room 1 = .ok (.iconst 1, 1) := by decide +kernel
theorem dX3_room_2 : decode cX3_room 2 = .ok (.bipush 8, 2) := by decide +kernel
theorem dX3_room_4 : decode cX3_room 4 = .ok (.invokestatic 96, 3) := by decide +kernel
theorem dX3_room_7 : decode cX3_room 7 = .ok (.ifCond .ne 6, 3) := by decide +kernel
theorem dX3_room_10 : decode cX3_room 10 = .ok (.bipush (-2), 2) := by decide +kernel
theorem dX3_room_12 : decode cX3_room 12 = .ok (.ireturn, 1) := by decide +kernel
theorem dX3_room_13 : decode cX3_room 13 = .ok (.aload_n 0, 1) := by decide +kernel
theorem dX3_room_14 : decode cX3_room 14 = .ok (.getfield 62, 3) := by decide +kernel
theorem dX3_room_17 : decode cX3_room 17 = .ok (.istore_n 2, 1) := by decide +kernel
theorem dX3_room_18 : decode cX3_room 18 = .ok (.aload_n 0, 1) := by decide +kernel
theorem dX3_room_19 : decode cX3_room 19 = .ok (.iload_n 1, 1) := by decide +kernel
theorem dX3_room_20 : decode cX3_room 20 = .ok (.putfield 62, 3) := by decide +kernel
theorem dX3_room_23 : decode cX3_room 23 = .ok (.aload_n 0, 1) := by decide +kernel
theorem dX3_room_24 : decode cX3_room 24 = .ok (.invokevirtual 114, 3) := by decide +kernel
theorem dX3_room_27 : decode cX3_room 27 = .ok (.aload_n 0, 1) := by decide +kernel
theorem dX3_room_28 : decode cX3_room 28 = .ok (.getfield 62, 3) := by decide +kernel
theorem dX3_room_31 : decode cX3_room 31 = .ok (.if_icmp .le 24, 3) := by decide +kernel
theorem dX3_room_34 : decode cX3_room 34 = .ok (.aload_n 0, 1) := by decide +kernel
theorem dX3_room_35 : decode cX3_room 35 = .ok (.invokevirtual 118, 3) := by decide +kernel
theorem dX3_room_38 : decode cX3_room 38 = .ok (.iconst (-1), 1) := by decide +kernel
theorem dX3_room_39 : decode cX3_room 39 = .ok (.if_icmp .eq 16, 3) := by decide +kernel
theorem dX3_room_42 : decode cX3_room 42 = .ok (.aload_n 0, 1) := by decide +kernel
theorem dX3_room_43 : decode cX3_room 43 = .ok (.getfield 66, 3) := by decide +kernel
theorem dX3_room_46 : decode cX3_room 46 = .ok (.aload_n 0, 1) := by decide +kernel
theorem dX3_room_47 : decode cX3_room 47 = .ok (.invokevirtual 118, 3) := by decide +kernel
theorem dX3_room_50 : decode cX3_room 50 = .ok (.iconst 0, 1) := by decide +kernel
theorem dX3_room_51 : decode cX3_room 51 = .ok (.bastore, 1) := by decide +kernel
theorem dX3_room_52 : decode cX3_room 52 = .ok (.goto (-29), 3) := by decide +kernel
theorem dX3_room_55 : decode cX3_room 55 = .ok (.iload_n 2, 1) := by decide +kernel
theorem dX3_room_56 : decode cX3_room 56 = .ok (.ireturn, 1) := by decide +kernel
set_option maxRecDepth 20000 in
theorem ggX3_wasBad_X3_isHeld : GoodIn wsX3_wasBad wsX3_isHeld := goodIn_r _ [14, 15, 4, 16, 38, 39, 40, 41, 42, 43, 44, 45, 46, 47, 48, 49, 50, 51, 52, 53, 54, 55, 56, 57, 58, 59, 60, 61, 62, 63, 64, 65, 66, 67, 68, 69, 70] (by decide +kernel) (by decide +kernel)
set_option maxRecDepth 20000 in
theorem gX3_wasBad_X3_isHeld : GoodIn wsX3_wasBad (wsV RX3 121 RX3 yX3_isHeld wsX3_isHeld) := goodIn_app (goodIn_of _ (by decide +kernel)) ggX3_wasBad_X3_isHeld
set_option maxRecDepth 20000 in
theorem ggX3_wasBad_X3_freezes : GoodIn wsX3_wasBad wsX3_freezes := goodIn_r _ [20, 21, 22, 23, 24, 25, 26, 27, 28, 29, 30, 31, 13, 32, 7, 33, 34, 35, 36, 15, 37, 38, 39, 40, 41, 42, 43, 44, 45, 46, 47, 48, 49, 50, 51, 52, 53, 54, 55, 56, 57, 58, 59, 60, 61, 62, 63, 64, 65, 66, 67, 68, 69, 70] (by decide +kernel) (by decide +kernel)
set_option maxRecDepth 20000 in
theorem gX3_wasBad_X3_freezes : GoodIn wsX3_wasBad (wsV RX3 124 RX3 yX3_freezes wsX3_freezes) := goodIn_app (goodIn_of _ (by decide +kernel)) ggX3_wasBad_X3_freezes
theorem dX3_wasBad_0 : decode cX3_wasBad 0 = .ok (.aload_n 0, 1) := by decide +kernel
theorem dX3_wasBad_1 : decode cX3_wasBad 1 = .ok (.getfield 38, 3) := by decide +kernel
theorem dX3_wasBad_4 : decode cX3_wasBad 4 = .ok (.iload_n 1, 1) := by decide +kernel
theorem dX3_wasBad_5 : decode cX3_wasBad 5 = .ok (.iconst 0, 1) := by decide +kernel
theorem dX3_wasBad_6 : decode cX3_wasBad 6 = .ok (.iastore, 1) := by decide +kernel
theorem dX3_wasBad_7 : decode cX3_wasBad 7 = .ok (.aload_n 0, 1) := by decide +kernel
theorem dX3_wasBad_8 : decode cX3_wasBad 8 = .ok (.getfield 41, 3) := by decide +kernel
theorem dX3_wasBad_11 : decode cX3_wasBad 11 = .ok (.iload_n 1, 1) := by decide +kernel
theorem dX3_wasBad_12 : decode cX3_wasBad 12 = .ok (.iconst 0, 1) := by decide +kernel
theorem dX3_wasBad_13 : decode cX3_wasBad 13 = .ok (.iastore, 1) := by decide +kernel
theorem dX3_wasBad_14 : decode cX3_wasBad 14 = .ok (.aload_n 0, 1) := by decide +kernel
theorem dX3_wasBad_15 : decode cX3_wasBad 15 = .ok (.getfield 35, 3) := by decide +kernel
theorem dX3_wasBad_18 : decode cX3_wasBad 18 = .ok (.iload_n 1, 1) := by decide +kernel
theorem dX3_wasBad_19 : decode cX3_wasBad 19 = .ok (.dup2, 1) := by decide +kernel
theorem dX3_wasBad_20 : decode cX3_wasBad 20 = .ok (.iaload, 1) := by decide +kernel
theorem dX3_wasBad_21 : decode cX3_wasBad 21 = .ok (.iconst 1, 1) := by decide +kernel
theorem dX3_wasBad_22 : decode cX3_wasBad 22 = .ok (.iadd, 1) := by decide +kernel
theorem dX3_wasBad_23 : decode cX3_wasBad 23 = .ok (.iastore, 1) := by decide +kernel
theorem dX3_wasBad_24 : decode cX3_wasBad 24 = .ok (.aload_n 0, 1) := by decide +kernel
theorem dX3_wasBad_25 : decode cX3_wasBad 25 = .ok (.getfield 32, 3) := by decide +kernel
theorem dX3_wasBad_28 : decode cX3_wasBad 28 = .ok (.iload_n 1, 1) := by decide +kernel
theorem dX3_wasBad_29 : decode cX3_wasBad 29 = .ok (.iaload, 1) := by decide +kernel
theorem dX3_wasBad_30 : decode cX3_wasBad 30 = .ok (.iconst 3, 1) := by decide +kernel
theorem dX3_wasBad_31 : decode cX3_wasBad 31 = .ok (.if_icmp .ne 7, 3) := by decide +kernel
theorem dX3_wasBad_34 : decode cX3_wasBad 34 = .ok (.iconst 1, 1) := by decide +kernel
theorem dX3_wasBad_35 : decode cX3_wasBad 35 = .ok (.goto 4, 3) := by decide +kernel
theorem dX3_wasBad_38 : decode cX3_wasBad 38 = .ok (.iconst 0, 1) := by decide +kernel
theorem dX3_wasBad_39 : decode cX3_wasBad 39 = .ok (.istore_n 2, 1) := by decide +kernel
theorem dX3_wasBad_40 : decode cX3_wasBad 40 = .ok (.aload_n 0, 1) := by decide +kernel
theorem dX3_wasBad_41 : decode cX3_wasBad 41 = .ok (.getfield 32, 3) := by decide +kernel
theorem dX3_wasBad_44 : decode cX3_wasBad 44 = .ok (.iload_n 1, 1) := by decide +kernel
theorem dX3_wasBad_45 : decode cX3_wasBad 45 = .ok (.aload_n 0, 1) := by decide +kernel
theorem dX3_wasBad_46 : decode cX3_wasBad 46 = .ok (.getfield 32, 3) := by decide +kernel
theorem dX3_wasBad_49 : decode cX3_wasBad 49 = .ok (.iload_n 1, 1) := by decide +kernel
theorem dX3_wasBad_50 : decode cX3_wasBad 50 = .ok (.iaload, 1) := by decide +kernel
theorem dX3_wasBad_51 : decode cX3_wasBad 51 = .ok (.ifCond .ne 7, 3) := by decide +kernel
theorem dX3_wasBad_54 : decode cX3_wasBad 54 = .ok (.iconst 1, 1) := by decide +kernel
theorem dX3_wasBad_55 : decode cX3_wasBad 55 = .ok (.goto 9, 3) := by decide +kernel
theorem dX3_wasBad_58 : decode cX3_wasBad 58 = .ok (.aload_n 0, 1) := by decide +kernel
theorem dX3_wasBad_59 : decode cX3_wasBad 59 = .ok (.getfield 32, 3) := by decide +kernel
theorem dX3_wasBad_62 : decode cX3_wasBad 62 = .ok (.iload_n 1, 1) := by decide +kernel
theorem dX3_wasBad_63 : decode cX3_wasBad 63 = .ok (.iaload, 1) := by decide +kernel
theorem dX3_wasBad_64 : decode cX3_wasBad 64 = .ok (.iastore, 1) := by decide +kernel
theorem dX3_wasBad_65 : decode cX3_wasBad 65 = .ok (.aload_n 0, 1) := by decide +kernel
theorem dX3_wasBad_66 : decode cX3_wasBad 66 = .ok (.getfield 32, 3) := by decide +kernel
theorem dX3_wasBad_69 : decode cX3_wasBad 69 = .ok (.iload_n 1, 1) := by decide +kernel
theorem dX3_wasBad_70 : decode cX3_wasBad 70 = .ok (.iaload, 1) := by decide +kernel
theorem dX3_wasBad_71 : decode cX3_wasBad 71 = .ok (.iconst 2, 1) := by decide +kernel
theorem dX3_wasBad_72 : decode cX3_wasBad 72 = .ok (.if_icmp .eq 107, 3) := by decide +kernel
theorem dX3_wasBad_75 : decode cX3_wasBad 75 = .ok (.iload_n 2, 1) := by decide +kernel
theorem dX3_wasBad_76 : decode cX3_wasBad 76 = .ok (.ifCond .ne 18, 3) := by decide +kernel
theorem dX3_wasBad_79 : decode cX3_wasBad 79 = .ok (.aload_n 0, 1) := by decide +kernel
end
section
theorem dX3_wasBad_80 : decode cX3_wasBad 80 = .ok (.getfield 35, 3) := by decide +kernel
theorem dX3_wasBad_83 : decode cX3_wasBad 83 = .ok (.iload_n 1, 1) := by decide +kernel
theorem dX3_wasBad_84 : decode cX3_wasBad 84 = .ok (.iaload, 1) := by decide +kernel
theorem dX3_wasBad_85 : decode cX3_wasBad 85 = .ok (.aload_n 0, 1) := by decide +kernel
theorem dX3_wasBad_86 : decode cX3_wasBad 86 = .ok (.getfield 16, 3) := by decide +kernel
theorem dX3_wasBad_89 : decode cX3_wasBad 89 = .ok (.iload_n 1, 1) := by decide +kernel
theorem dX3_wasBad_90 : decode cX3_wasBad 90 = .ok (.iaload, 1) := by decide +kernel
theorem dX3_wasBad_91 : decode cX3_wasBad 91 = .ok (.if_icmp .lt 88, 3) := by decide +kernel
theorem dX3_wasBad_94 : decode cX3_wasBad 94 = .ok (.aload_n 0, 1) := by decide +kernel
theorem dX3_wasBad_95 : decode cX3_wasBad 95 = .ok (.iload_n 1, 1) := by decide +kernel
theorem dX3_wasBad_96 : decode cX3_wasBad 96 = .ok (.invokevirtual 121, 3) := by decide +kernel
theorem dX3_wasBad_99 : decode cX3_wasBad 99 = .ok (.ifCond .ne 80, 3) := by decide +kernel
theorem dX3_wasBad_102 : decode cX3_wasBad 102 = .ok (.aload_n 0, 1) := by decide +kernel
theorem dX3_wasBad_103 : decode cX3_wasBad 103 = .ok (.getfield 32, 3) := by decide +kernel
theorem dX3_wasBad_106 : decode cX3_wasBad 106 = .ok (.iload_n 1, 1) := by decide +kernel
theorem dX3_wasBad_107 : decode cX3_wasBad 107 = .ok (.iconst 2, 1) := by decide +kernel
theorem dX3_wasBad_108 : decode cX3_wasBad 108 = .ok (.iastore, 1) := by decide +kernel
theorem dX3_wasBad_109 : decode cX3_wasBad 109 = .ok (.aload_n 0, 1) := by decide +kernel
theorem dX3_wasBad_110 : decode cX3_wasBad 110 = .ok (.getfield 53, 3) := by decide +kernel
theorem dX3_wasBad_113 : decode cX3_wasBad 113 = .ok (.iload_n 1, 1) := by decide +kernel
theorem dX3_wasBad_114 : decode cX3_wasBad 114 = .ok (.dup2, 1) := by decide +kernel
theorem dX3_wasBad_115 : decode cX3_wasBad 115 = .ok (.iaload, 1) := by decide +kernel
theorem dX3_wasBad_116 : decode cX3_wasBad 116 = .ok (.iconst 1, 1) := by decide +kernel
theorem dX3_wasBad_117 : decode cX3_wasBad 117 = .ok (.iadd, 1) := by decide +kernel
theorem dX3_wasBad_118 : decode cX3_wasBad 118 = .ok (.iastore, 1) := by decide +kernel
theorem dX3_wasBad_119 : decode cX3_wasBad 119 = .ok (.iconst 0, 1) := by decide +kernel
theorem dX3_wasBad_120 : decode cX3_wasBad 120 = .ok (.istore_n 3, 1) := by decide +kernel
theorem dX3_wasBad_121 : decode cX3_wasBad 121 = .ok (.iload_n 3, 1) := by decide +kernel
theorem dX3_wasBad_122 : decode cX3_wasBad 122 = .ok (.aload_n 0, 1) := by decide +kernel
theorem dX3_wasBad_123 : decode cX3_wasBad 123 = .ok (.getfield 93, 3) := by decide +kernel
theorem dX3_wasBad_126 : decode cX3_wasBad 126 = .ok (.if_icmp .ge 48, 3) := by decide +kernel
theorem dX3_wasBad_129 : decode cX3_wasBad 129 = .ok (.aload_n 0, 1) := by decide +kernel
theorem dX3_wasBad_130 : decode cX3_wasBad 130 = .ok (.getfield 56, 3) := by decide +kernel
theorem dX3_wasBad_133 : decode cX3_wasBad 133 = .ok (.bipush 16, 2) := by decide +kernel
theorem dX3_wasBad_135 : decode cX3_wasBad 135 = .ok (.iload_n 3, 1) := by decide +kernel
theorem dX3_wasBad_136 : decode cX3_wasBad 136 = .ok (.imul, 1) := by decide +kernel
theorem dX3_wasBad_137 : decode cX3_wasBad 137 = .ok (.iload_n 1, 1) := by decide +kernel
theorem dX3_wasBad_138 : decode cX3_wasBad 138 = .ok (.iadd, 1) := by decide +kernel
theorem dX3_wasBad_139 : decode cX3_wasBad 139 = .ok (.dup2, 1) := by decide +kernel
theorem dX3_wasBad_140 : decode cX3_wasBad 140 = .ok (.iaload, 1) := by decide +kernel
theorem dX3_wasBad_141 : decode cX3_wasBad 141 = .ok (.aload_n 0, 1) := by decide +kernel
theorem dX3_wasBad_142 : decode cX3_wasBad 142 = .ok (.getfield 47, 3) := by decide +kernel
theorem dX3_wasBad_145 : decode cX3_wasBad 145 = .ok (.iload_n 3, 1) := by decide +kernel
theorem dX3_wasBad_146 : decode cX3_wasBad 146 = .ok (.iaload, 1) := by decide +kernel
theorem dX3_wasBad_147 : decode cX3_wasBad 147 = .ok (.iconst 1, 1) := by decide +kernel
theorem dX3_wasBad_148 : decode cX3_wasBad 148 = .ok (.if_icmp .eq 13, 3) := by decide +kernel
theorem dX3_wasBad_151 : decode cX3_wasBad 151 = .ok (.aload_n 0, 1) := by decide +kernel
theorem dX3_wasBad_152 : decode cX3_wasBad 152 = .ok (.getfield 47, 3) := by decide +kernel
theorem dX3_wasBad_155 : decode cX3_wasBad 155 = .ok (.iload_n 3, 1) := by decide +kernel
theorem dX3_wasBad_156 : decode cX3_wasBad 156 = .ok (.iaload, 1) := by decide +kernel
theorem dX3_wasBad_157 : decode cX3_wasBad 157 = .ok (.iconst 2, 1) := by decide +kernel
theorem dX3_wasBad_158 : decode cX3_wasBad 158 = .ok (.if_icmp .ne 7, 3) := by decide +kernel
theorem dX3_wasBad_161 : decode cX3_wasBad 161 = .ok (.iconst 1, 1) := by decide +kernel
theorem dX3_wasBad_162 : decode cX3_wasBad 162 = .ok (.goto 4, 3) := by decide +kernel
theorem dX3_wasBad_165 : decode cX3_wasBad 165 = .ok (.iconst 0, 1) := by decide +kernel
theorem dX3_wasBad_166 : decode cX3_wasBad 166 = .ok (.iadd, 1) := by decide +kernel
theorem dX3_wasBad_167 : decode cX3_wasBad 167 = .ok (.iastore, 1) := by decide +kernel
theorem dX3_wasBad_168 : decode cX3_wasBad 168 = .ok (.iinc 3 1, 3) := by decide +kernel
theorem dX3_wasBad_171 : decode cX3_wasBad 171 = .ok (.goto (-50), 3) := by decide +kernel
theorem dX3_wasBad_174 : decode cX3_wasBad 174 = .ok (.aload_n 0, 1) := by decide +kernel
theorem dX3_wasBad_175 : decode cX3_wasBad 175 = .ok (.iload_n 1, 1) := by decide +kernel
theorem dX3_wasBad_176 : decode cX3_wasBad 176 = .ok (.invokevirtual 124, 3) := by decide +kernel
theorem dX3_wasBad_179 : decode cX3_wasBad 179 = .ok (.return_, 1) := by decide +kernel
theorem dX3_wasGood_0 : decode cX3_wasGood 0 = .ok (.aload_n 0, 1) := by decide +kernel
theorem dX3_wasGood_1 : decode cX3_wasGood 1 = .ok (.getfield 35, 3) := by decide +kernel
theorem dX3_wasGood_4 : decode cX3_wasGood 4 = .ok (.iload_n 1, 1) := by decide +kernel
theorem dX3_wasGood_5 : decode cX3_wasGood 5 = .ok (.iconst 0, 1) := by decide +kernel
theorem dX3_wasGood_6 : decode cX3_wasGood 6 = .ok (.iastore, 1) := by decide +kernel
theorem dX3_wasGood_7 : decode cX3_wasGood 7 = .ok (.aload_n 0, 1) := by decide +kernel
theorem dX3_wasGood_8 : decode cX3_wasGood 8 = .ok (.getfield 38, 3) := by decide +kernel
theorem dX3_wasGood_11 : decode cX3_wasGood 11 = .ok (.iload_n 1, 1) := by decide +kernel
theorem dX3_wasGood_12 : decode cX3_wasGood 12 = .ok (.dup2, 1) := by decide +kernel
theorem dX3_wasGood_13 : decode cX3_wasGood 13 = .ok (.iaload, 1) := by decide +kernel
theorem dX3_wasGood_14 : decode cX3_wasGood 14 = .ok (.iconst 1, 1) := by decide +kernel
theorem dX3_wasGood_15 : decode cX3_wasGood 15 = .ok (.iadd, 1) := by decide +kernel
theorem dX3_wasGood_16 : decode cX3_wasGood 16 = .ok (.iastore, 1) := by decide +kernel
theorem dX3_wasGood_17 : decode cX3_wasGood 17 = .ok (.aload_n 0, 1) := by decide +kernel
theorem dX3_wasGood_18 : decode cX3_wasGood 18 = .ok (.getfield 32, 3) := by decide +kernel
theorem dX3_wasGood_21 : decode cX3_wasGood 21 = .ok (.iload_n 1, 1) := by decide +kernel
theorem dX3_wasGood_22 : decode cX3_wasGood 22 = .ok (.iaload, 1) := by decide +kernel
theorem dX3_wasGood_23 : decode cX3_wasGood 23 = .ok (.iconst 1, 1) := by decide +kernel
theorem dX3_wasGood_24 : decode cX3_wasGood 24 = .ok (.if_icmp .ne 13, 3) := by decide +kernel
theorem dX3_wasGood_27 : decode cX3_wasGood 27 = .ok (.aload_n 0, 1) := by decide +kernel
theorem dX3_wasGood_28 : decode cX3_wasGood 28 = .ok (.getfield 32, 3) := by decide +kernel
theorem dX3_wasGood_31 : decode cX3_wasGood 31 = .ok (.iload_n 1, 1) := by decide +kernel
theorem dX3_wasGood_32 : decode cX3_wasGood 32 = .ok (.iconst 0, 1) := by decide +kernel
theorem dX3_wasGood_33 : decode cX3_wasGood 33 = .ok (.iastore, 1) := by decide +kernel
theorem dX3_wasGood_34 : decode cX3_wasGood 34 = .ok (.goto 42, 3) := by decide +kernel
theorem dX3_wasGood_37 : decode cX3_wasGood 37 = .ok (.aload_n 0, 1) := by decide +kernel
theorem dX3_wasGood_38 : decode cX3_wasGood 38 = .ok (.getfield 32, 3) := by decide +kernel
theorem dX3_wasGood_41 : decode cX3_wasGood 41 = .ok (.iload_n 1, 1) := by decide +kernel
theorem dX3_wasGood_42 : decode cX3_wasGood 42 = .ok (.iaload, 1) := by decide +kernel
theorem dX3_wasGood_43 : decode cX3_wasGood 43 = .ok (.iconst 2, 1) := by decide +kernel
theorem dX3_wasGood_44 : decode cX3_wasGood 44 = .ok (.if_icmp .ne 32, 3) := by decide +kernel
theorem dX3_wasGood_47 : decode cX3_wasGood 47 = .ok (.aload_n 0, 1) := by decide +kernel
theorem dX3_wasGood_48 : decode cX3_wasGood 48 = .ok (.getfield 38, 3) := by decide +kernel
theorem dX3_wasGood_51 : decode cX3_wasGood 51 = .ok (.iload_n 1, 1) := by decide +kernel
theorem dX3_wasGood_52 : decode cX3_wasGood 52 = .ok (.iaload, 1) := by decide +kernel
theorem dX3_wasGood_53 : decode cX3_wasGood 53 = .ok (.aload_n 0, 1) := by decide +kernel
theorem dX3_wasGood_54 : decode cX3_wasGood 54 = .ok (.getfield 19, 3) := by decide +kernel
theorem dX3_wasGood_57 : decode cX3_wasGood 57 = .ok (.iload_n 1, 1) := by decide +kernel
theorem dX3_wasGood_58 : decode cX3_wasGood 58 = .ok (.iaload, 1) := by decide +kernel
theorem dX3_wasGood_59 : decode cX3_wasGood 59 = .ok (.if_icmp .lt 17, 3) := by decide +kernel
theorem dX3_wasGood_62 : decode cX3_wasGood 62 = .ok (.aload_n 0, 1) := by decide +kernel
theorem dX3_wasGood_63 : decode cX3_wasGood 63 = .ok (.getfield 32, 3) := by decide +kernel
theorem dX3_wasGood_66 : decode cX3_wasGood 66 = .ok (.iload_n 1, 1) := by decide +kernel
theorem dX3_wasGood_67 : decode cX3_wasGood 67 = .ok (.iconst 3, 1) := by decide +kernel
theorem dX3_wasGood_68 : decode cX3_wasGood 68 = .ok (.iastore, 1) := by decide +kernel
theorem dX3_wasGood_69 : decode cX3_wasGood 69 = .ok (.aload_n 0, 1) := by decide +kernel
theorem dX3_wasGood_70 : decode cX3_wasGood 70 = .ok (.getfield 41, 3) := by decide +kernel
theorem dX3_wasGood_73 : decode cX3_wasGood 73 = .ok (.iload_n 1, 1) := by decide +kernel
theorem dX3_wasGood_74 : decode cX3_wasGood 74 = .ok (.iconst 0, 1) := by decide +kernel
theorem dX3_wasGood_75 : decode cX3_wasGood 75 = .ok (.iastore, 1) := by decide +kernel
theorem dX3_wasGood_76 : decode cX3_wasGood 76 = .ok (.return_, 1) := by decide +kernel
theorem dX3_ages_0 : decode cX3_ages 0 = .ok (.aload_n 0, 1) := by decide +kernel
theorem dX3_ages_1 : decode cX3_ages 1 = .ok (.getfield 41, 3) := by decide +kernel
theorem dX3_ages_4 : decode cX3_ages 4 = .ok (.iload_n 1, 1) := by decide +kernel
theorem dX3_ages_5 : decode cX3_ages 5 = .ok (.dup2, 1) := by decide +kernel
theorem dX3_ages_6 : decode cX3_ages 6 = .ok (.iaload, 1) := by decide +kernel
theorem dX3_ages_7 : decode cX3_ages 7 = .ok (.iconst 1, 1) := by decide +kernel
theorem dX3_ages_8 : decode cX3_ages 8 = .ok (.iadd, 1) := by decide +kernel
theorem dX3_ages_9 : decode cX3_ages 9 = .ok (.iastore, 1) := by decide +kernel
theorem dX3_ages_10 : decode cX3_ages 10 = .ok (.aload_n 0, 1) := by decide +kernel
theorem dX3_ages_11 : decode cX3_ages 11 = .ok (.getfield 41, 3) := by decide +kernel
theorem dX3_ages_14 : decode cX3_ages 14 = .ok (.iload_n 1, 1) := by decide +kernel
theorem dX3_ages_15 : decode cX3_ages 15 = .ok (.iaload, 1) := by decide +kernel
theorem dX3_ages_16 : decode cX3_ages 16 = .ok (.aload_n 0, 1) := by decide +kernel
theorem dX3_ages_17 : decode cX3_ages 17 = .ok (.getfield 7, 3) := by decide +kernel
theorem dX3_ages_20 : decode cX3_ages 20 = .ok (.iload_n 1, 1) := by decide +kernel
theorem dX3_ages_21 : decode cX3_ages 21 = .ok (.iaload, 1) := by decide +kernel
theorem dX3_ages_22 : decode cX3_ages 22 = .ok (.iconst 1, 1) := by decide +kernel
theorem dX3_ages_23 : decode cX3_ages 23 = .ok (.if_icmp .ne 14, 3) := by decide +kernel
theorem dX3_ages_26 : decode cX3_ages 26 = .ok (.iconst 2, 1) := by decide +kernel
theorem dX3_ages_27 : decode cX3_ages 27 = .ok (.aload_n 0, 1) := by decide +kernel
theorem dX3_ages_28 : decode cX3_ages 28 = .ok (.getfield 22, 3) := by decide +kernel
theorem dX3_ages_31 : decode cX3_ages 31 = .ok (.iload_n 1, 1) := by decide +kernel
theorem dX3_ages_32 : decode cX3_ages 32 = .ok (.iaload, 1) := by decide +kernel
theorem dX3_ages_33 : decode cX3_ages 33 = .ok (.imul, 1) := by decide +kernel
theorem dX3_ages_34 : decode cX3_ages 34 = .ok (.goto 9, 3) := by decide +kernel
theorem dX3_ages_37 : decode cX3_ages 37 = .ok (.aload_n 0, 1) := by decide +kernel
theorem dX3_ages_38 : decode cX3_ages 38 = .ok (.getfield 22, 3) := by decide +kernel
theorem dX3_ages_41 : decode cX3_ages 41 = .ok (.iload_n 1, 1) := by decide +kernel
theorem dX3_ages_42 : decode cX3_ages 42 = .ok (.iaload, 1) := by decide +kernel
theorem dX3_ages_43 : decode cX3_ages 43 = .ok (.if_icmp .lt 17, 3) := by decide +kernel
theorem dX3_ages_46 : decode cX3_ages 46 = .ok (.aload_n 0, 1) := by decide +kernel
theorem dX3_ages_47 : decode cX3_ages 47 = .ok (.getfield 32, 3) := by decide +kernel
theorem dX3_ages_50 : decode cX3_ages 50 = .ok (.iload_n 1, 1) := by decide +kernel
theorem dX3_ages_51 : decode cX3_ages 51 = .ok (.iconst 0, 1) := by decide +kernel
theorem dX3_ages_52 : decode cX3_ages 52 = .ok (.iastore, 1) := by decide +kernel
theorem dX3_ages_53 : decode cX3_ages 53 = .ok (.aload_n 0, 1) := by decide +kernel
theorem dX3_ages_54 : decode cX3_ages 54 = .ok (.getfield 66, 3) := by decide +kernel
theorem dX3_ages_57 : decode cX3_ages 57 = .ok (.iload_n 1, 1) := by decide +kernel
theorem dX3_ages_58 : decode cX3_ages 58 = .ok (.iconst 0, 1) := by decide +kernel
theorem dX3_ages_59 : decode cX3_ages 59 = .ok (.bastore, 1) := by decide +kernel
theorem dX3_ages_60 : decode cX3_ages 60 = .ok (.return_, 1) := by decide +kernel
set_option maxRecDepth 20000 in
theorem ggX3_end_X3_wasBad : GoodIn wsX3_end wsX3_wasBad := goodIn_r _ [12, 13, 14, 15, 6, 16, 3, 2, 17, 18, 19, 20, 21, 11, 22, 23, 24, 25, 26, 27, 28, 29, 30, 7, 31, 32, 33, 34, 35, 36, 37, 38, 39, 40, 41, 42, 43, 44, 55, 56, 57, 58, 59, 60, 61, 62, 63, 64, 65, 66, 67, 68, 69, 70, 71, 72, 73, 74, 75, 76, 77, 78, 79, 80, 81, 82, 83, 84, 85, 86, 87] (by decide +kernel) (by decide +kernel)
set_option maxRecDepth 20000 in
theorem gX3_end_X3_wasBad : GoodIn wsX3_end (wsV RX3 128 RX3 yX3_wasBad wsX3_wasBad) := goodIn_app (goodIn_of _ (by decide +kernel)) ggX3_end_X3_wasBad
set_option maxRecDepth 20000 in
theorem ggX3_end_X3_wasGood : GoodIn wsX3_end wsX3_wasGood := goodIn_r _ [48, 15, 13, 6, 49, 14, 55, 56, 57, 58, 59, 60, 61, 62, 63, 64, 65, 66, 67, 68, 69, 70, 71, 72, 73, 74, 75, 76, 77, 78, 79, 80, 81, 82, 83, 84, 85, 86, 87] (by decide +kernel) (by decide +kernel)
set_option maxRecDepth 20000 in
theorem gX3_end_X3_wasGood : GoodIn wsX3_end (wsV RX3 131 RX3 yX3_wasGood wsX3_wasGood) := goodIn_app (goodIn_of _ (by decide +kernel)) ggX3_end_X3_wasGood
set_option maxRecDepth 20000 in
theorem ggX3_end_X3_ages : GoodIn wsX3_end wsX3_ages := goodIn_r _ [53, 14, 23, 54, 6, 29, 55, 56, 57, 58, 59, 60, 61, 62, 63, 64, 65, 66, 67, 68, 69, 70, 71, 72, 73, 74, 75, 76, 77, 78, 79, 80, 81, 82, 83, 84, 85, 86, 87] (by decide +kernel) (by decide +kernel)
set_option maxRecDepth 20000 in
theorem gX3_end_X3_ages : GoodIn wsX3_end (wsV RX3 134 RX3 yX3_ages wsX3_ages) := goodIn_app (goodIn_of _ (by decide +kernel)) ggX3_end_X3_ages
theorem dX3_end_0 : decode cX3_end 0 = .ok (.aload_n 0, 1) := by decide +kernel
theorem dX3_end_1 : decode cX3_end 1 = .ok (.getfield 104, 3) := by decide +kernel
theorem dX3_end_4 : decode cX3_end 4 = .ok (.ifCond .ne 6, 3) := by decide +kernel
theorem dX3_end_7 : decode cX3_end 7 = .ok (.bipush (-3), 2) := by decide +kernel
theorem dX3_end_9 : decode cX3_end 9 = .ok (.ireturn, 1) := by decide +kernel
theorem dX3_end_10 : decode cX3_end 10 = .ok (.aload_n 0, 1) := by decide +kernel
theorem dX3_end_11 : decode cX3_end 11 = .ok (.iconst 0, 1) := by decide +kernel
theorem dX3_end_12 : decode cX3_end 12 = .ok (.putfield 104, 3) := by decide +kernel
theorem dX3_end_15 : decode cX3_end 15 = .ok (.iconst 0, 1) := by decide +kernel
theorem dX3_end_16 : decode cX3_end 16 = .ok (.istore_n 1, 1) := by decide +kernel
theorem dX3_end_17 : decode cX3_end 17 = .ok (.iconst 0, 1) := by decide +kernel
theorem dX3_end_18 : decode cX3_end 18 = .ok (.istore_n 2, 1) := by decide +kernel
theorem dX3_end_19 : decode cX3_end 19 = .ok (.iload_n 2, 1) := by decide +kernel
theorem dX3_end_20 : decode cX3_end 20 = .ok (.aload_n 0, 1) := by decide +kernel
theorem dX3_end_21 : decode cX3_end 21 = .ok (.getfield 93, 3) := by decide +kernel
theorem dX3_end_24 : decode cX3_end 24 = .ok (.if_icmp .ge 114, 3) := by decide +kernel
theorem dX3_end_27 : decode cX3_end 27 = .ok (.aload_n 0, 1) := by decide +kernel
theorem dX3_end_28 : decode cX3_end 28 = .ok (.getfield 53, 3) := by decide +kernel
theorem dX3_end_31 : decode cX3_end 31 = .ok (.iload_n 2, 1) := by decide +kernel
theorem dX3_end_32 : decode cX3_end 32 = .ok (.iaload, 1) := by decide +kernel
theorem dX3_end_33 : decode cX3_end 33 = .ok (.istore_n 3, 1) := by decide +kernel
theorem dX3_end_34 : decode cX3_end 34 = .ok (.aload_n 0, 1) := by decide +kernel
theorem dX3_end_35 : decode cX3_end 35 = .ok (.getfield 44, 3) := by decide +kernel
theorem dX3_end_38 : decode cX3_end 38 = .ok (.iload_n 2, 1) := by decide +kernel
theorem dX3_end_39 : decode cX3_end 39 = .ok (.aload_n 0, 1) := by decide +kernel
theorem dX3_end_40 : decode cX3_end 40 = .ok (.getfield 44, 3) := by decide +kernel
theorem dX3_end_43 : decode cX3_end 43 = .ok (.iload_n 2, 1) := by decide +kernel
theorem dX3_end_44 : decode cX3_end 44 = .ok (.baload, 1) := by decide +kernel
theorem dX3_end_45 : decode cX3_end 45 = .ok (.ifCond .ne 12, 3) := by decide +kernel
theorem dX3_end_48 : decode cX3_end 48 = .ok (.aload_n 0, 1) := by decide +kernel
theorem dX3_end_49 : decode cX3_end 49 = .ok (.getfield 50, 3) := by decide +kernel
theorem dX3_end_52 : decode cX3_end 52 = .ok (.iload_n 2, 1) := by decide +kernel
theorem dX3_end_53 : decode cX3_end 53 = .ok (.iaload, 1) := by decide +kernel
theorem dX3_end_54 : decode cX3_end 54 = .ok (.ifCond .le 7, 3) := by decide +kernel
theorem dX3_end_57 : decode cX3_end 57 = .ok (.iconst 1, 1) := by decide +kernel
theorem dX3_end_58 : decode cX3_end 58 = .ok (.goto 4, 3) := by decide +kernel
theorem dX3_end_61 : decode cX3_end 61 = .ok (.iconst 0, 1) := by decide +kernel
theorem dX3_end_62 : decode cX3_end 62 = .ok (.bastore, 1) := by decide +kernel
theorem dX3_end_63 : decode cX3_end 63 = .ok (.aload_n 0, 1) := by decide +kernel
theorem dX3_end_64 : decode cX3_end 64 = .ok (.getfield 50, 3) := by decide +kernel
theorem dX3_end_67 : decode cX3_end 67 = .ok (.iload_n 2, 1) := by decide +kernel
theorem dX3_end_68 : decode cX3_end 68 = .ok (.iaload, 1) := by decide +kernel
theorem dX3_end_69 : decode cX3_end 69 = .ok (.iconst 2, 1) := by decide +kernel
theorem dX3_end_70 : decode cX3_end 70 = .ok (.if_icmp .ne 11, 3) := by decide +kernel
theorem dX3_end_73 : decode cX3_end 73 = .ok (.aload_n 0, 1) := by decide +kernel
theorem dX3_end_74 : decode cX3_end 74 = .ok (.iload_n 2, 1) := by decide +kernel
theorem dX3_end_75 : decode cX3_end 75 = .ok (.invokevirtual 128, 3) := by decide +kernel
theorem dX3_end_78 : decode cX3_end 78 = .ok (.goto 18, 3) := by decide +kernel
theorem dX3_end_81 : decode cX3_end 81 = .ok (.aload_n 0, 1) := by decide +kernel
theorem dX3_end_82 : decode cX3_end 82 = .ok (.getfield 50, 3) := by decide +kernel
theorem dX3_end_85 : decode cX3_end 85 = .ok (.iload_n 2, 1) := by decide +kernel
theorem dX3_end_86 : decode cX3_end 86 = .ok (.iaload, 1) := by decide +kernel
theorem dX3_end_87 : decode cX3_end 87 = .ok (.iconst 1, 1) := by decide +kernel
theorem dX3_end_88 : decode cX3_end 88 = .ok (.if_icmp .ne 8, 3) := by decide +kernel
theorem dX3_end_91 : decode cX3_end 91 = .ok (.aload_n 0, 1) := by decide +kernel
theorem dX3_end_92 : decode cX3_end 92 = .ok (.iload_n 2, 1) := by decide +kernel
theorem dX3_end_93 : decode cX3_end 93 = .ok (.invokevirtual 131, 3) := by decide +kernel
theorem dX3_end_96 : decode cX3_end 96 = .ok (.aload_n 0, 1) := by decide +kernel
theorem dX3_end_97 : decode cX3_end 97 = .ok (.getfield 32, 3) := by decide +kernel
theorem dX3_end_100 : decode cX3_end 100 = .ok (.iload_n 2, 1) := by decide +kernel
theorem dX3_end_101 : decode cX3_end 101 = .ok (.iaload, 1) := by decide +kernel
theorem dX3_end_102 : decode cX3_end 102 = .ok (.iconst 3, 1) := by decide +kernel
theorem dX3_end_103 : decode cX3_end 103 = .ok (.if_icmp .ne 18, 3) := by decide +kernel
theorem dX3_end_106 : decode cX3_end 106 = .ok (.aload_n 0, 1) := by decide +kernel
theorem dX3_end_107 : decode cX3_end 107 = .ok (.getfield 50, 3) := by decide +kernel
theorem dX3_end_110 : decode cX3_end 110 = .ok (.iload_n 2, 1) := by decide +kernel
theorem dX3_end_111 : decode cX3_end 111 = .ok (.iaload, 1) := by decide +kernel
theorem dX3_end_112 : decode cX3_end 112 = .ok (.iconst 2, 1) := by decide +kernel
theorem dX3_end_113 : decode cX3_end 113 = .ok (.if_icmp .eq 8, 3) := by decide +kernel
theorem dX3_end_116 : decode cX3_end 116 = .ok (.aload_n 0, 1) := by decide +kernel
theorem dX3_end_117 : decode cX3_end 117 = .ok (.iload_n 2, 1) := by decide +kernel
theorem dX3_end_118 : decode cX3_end 118 = .ok (.invokevirtual 134, 3) := by decide +kernel
theorem dX3_end_121 : decode cX3_end 121 = .ok (.iload_n 1, 1) := by decide +kernel
theorem dX3_end_122 : decode cX3_end 122 = .ok (.aload_n 0, 1) := by decide +kernel
theorem dX3_end_123 : decode cX3_end 123 = .ok (.getfield 53, 3) := by decide +kernel
theorem dX3_end_126 : decode cX3_end 126 = .ok (.iload_n 2, 1) := by decide +kernel
theorem dX3_end_127 : decode cX3_end 127 = .ok (.iaload, 1) := by decide +kernel
theorem dX3_end_128 : decode cX3_end 128 = .ok (.iload_n 3, 1) := by decide +kernel
theorem dX3_end_129 : decode cX3_end 129 = .ok (.isub, 1) := by decide +kernel
theorem dX3_end_130 : decode cX3_end 130 = .ok (.iadd, 1) := by decide +kernel
theorem dX3_end_131 : decode cX3_end 131 = .ok (.istore_n 1, 1) := by decide +kernel
theorem dX3_end_132 : decode cX3_end 132 = .ok (.iinc 2 1, 3) := by decide +kernel
theorem dX3_end_135 : decode cX3_end 135 = .ok (.goto (-116), 3) := by decide +kernel
theorem dX3_end_138 : decode cX3_end 138 = .ok (.aload_n 0, 1) := by decide +kernel
theorem dX3_end_139 : decode cX3_end 139 = .ok (.dup, 1) := by decide +kernel
theorem dX3_end_140 : decode cX3_end 140 = .ok (.getfield 108, 3) := by decide +kernel
theorem dX3_end_143 : decode cX3_end 143 = .ok (.iconst 1, 1) := by decide +kernel
theorem dX3_end_144 : decode cX3_end 144 = .ok (.iadd, 1) := by decide +kernel
theorem dX3_end_145 : decode cX3_end 145 = .ok (.putfield 108, 3) := by decide +kernel
theorem dX3_end_148 : decode cX3_end 148 = .ok (.iload_n 1, 1) := by decide +kernel
theorem dX3_end_149 : decode cX3_end 149 = .ok (.ireturn, 1) := by decide +kernel
set_option maxRecDepth 20000 in
theorem ggX3_fact_X3_in : GoodIn wsX3_fact wsX3_in := goodIn_r _ [5] (by decide +kernel) (by decide +kernel)
set_option maxRecDepth 20000 in
theorem gX3_fact_X3_in : GoodIn wsX3_fact (va_wsS RX3 96 yX3_in wsX3_in) := goodIn_app (goodIn_of _ (by decide +kernel)) ggX3_fact_X3_in
theorem dX3_fact_0 : decode cX3_fact 0 = .ok (.iload_n 1, 1) := by decide +kernel
theorem dX3_fact_1 : decode cX3_fact 1 = .ok (.iconst 0, 1) := by decide +kernel
theorem dX3_fact_2 : decode cX3_fact 2 = .ok (.iconst 3, 1) := by decide +kernel
theorem dX3_fact_3 : decode cX3_fact 3 = .ok (.invokestatic 96, 3) := by decide +kernel
theorem dX3_fact_6 : decode cX3_fact 6 = .ok (.ifCond .eq 16, 3) := by decide +kernel
theorem dX3_fact_9 : decode cX3_fact 9 = .ok (.iload_n 2, 1) := by decide +kernel
theorem dX3_fact_10 : decode cX3_fact 10 = .ok (.sipush (-1000), 3) := by decide +kernel
theorem dX3_fact_13 : decode cX3_fact 13 = .ok (.sipush 1000, 3) := by decide +kernel
theorem dX3_fact_16 : decode cX3_fact 16 = .ok (.invokestatic 96, 3) := by decide +kernel
theorem dX3_fact_19 : decode cX3_fact 19 = .ok (.ifCond .ne 7, 3) := by decide +kernel
theorem dX3_fact_22 : decode cX3_fact 22 = .ok (.sipush (-2000), 3) := by decide +kernel
theorem dX3_fact_25 : decode cX3_fact 25 = .ok (.ireturn, 1) := by decide +kernel
theorem dX3_fact_26 : decode cX3_fact 26 = .ok (.aload_n 0, 1) := by decide +kernel
theorem dX3_fact_27 : decode cX3_fact 27 = .ok (.getfield 59, 3) := by decide +kernel
theorem dX3_fact_30 : decode cX3_fact 30 = .ok (.iload_n 1, 1) := by decide +kernel
theorem dX3_fact_31 : decode cX3_fact 31 = .ok (.iaload, 1) := by decide +kernel
theorem dX3_fact_32 : decode cX3_fact 32 = .ok (.istore_n 3, 1) := by decide +kernel
theorem dX3_fact_33 : decode cX3_fact 33 = .ok (.aload_n 0, 1) := by decide +kernel
theorem dX3_fact_34 : decode cX3_fact 34 = .ok (.getfield 59, 3) := by decide +kernel
theorem dX3_fact_37 : decode cX3_fact 37 = .ok (.iload_n 1, 1) := by decide +kernel
theorem dX3_fact_38 : decode cX3_fact 38 = .ok (.iload_n 2, 1) := by decide +kernel
theorem dX3_fact_39 : decode cX3_fact 39 = .ok (.iastore, 1) := by decide +kernel
theorem dX3_fact_40 : decode cX3_fact 40 = .ok (.iload_n 3, 1) := by decide +kernel
theorem dX3_fact_41 : decode cX3_fact 41 = .ok (.ireturn, 1) := by decide +kernel
set_option maxRecDepth 20000 in
theorem ggX3_aboutOf_X3_isHeld : GoodIn wsX3_aboutOf wsX3_isHeld := goodIn_r _ [12, 7, 1, 13, 14, 15, 16, 17, 18, 19, 20, 21, 22, 23, 24, 25, 26, 27, 28, 29, 30, 31, 32, 33, 34, 35, 36, 37, 38, 39, 40, 41, 42, 43, 44, 45, 46] (by decide +kernel) (by decide +kernel)
set_option maxRecDepth 20000 in
theorem gX3_aboutOf_X3_isHeld : GoodIn wsX3_aboutOf (wsV RX3 121 RX3 yX3_isHeld wsX3_isHeld) := goodIn_app (goodIn_of _ (by decide +kernel)) ggX3_aboutOf_X3_isHeld
theorem dX3_aboutOf_0 : decode cX3_aboutOf 0 = .ok (.iload_n 2, 1) := by decide +kernel
theorem dX3_aboutOf_1 : decode cX3_aboutOf 1 = .ok (.tableswitch 115 0 6 #[43, 50, 57, 64, 71, 85, 100], 43) := by decide +kernel
theorem dX3_aboutOf_44 : decode cX3_aboutOf 44 = .ok (.aload_n 0, 1) := by decide +kernel
theorem dX3_aboutOf_45 : decode cX3_aboutOf 45 = .ok (.getfield 32, 3) := by decide +kernel
theorem dX3_aboutOf_48 : decode cX3_aboutOf 48 = .ok (.iload_n 1, 1) := by decide +kernel
theorem dX3_aboutOf_49 : decode cX3_aboutOf 49 = .ok (.iaload, 1) := by decide +kernel
theorem dX3_aboutOf_50 : decode cX3_aboutOf 50 = .ok (.ireturn, 1) := by decide +kernel
theorem dX3_aboutOf_51 : decode cX3_aboutOf 51 = .ok (.aload_n 0, 1) := by decide +kernel
theorem dX3_aboutOf_52 : decode cX3_aboutOf 52 = .ok (.getfield 35, 3) := by decide +kernel
theorem dX3_aboutOf_55 : decode cX3_aboutOf 55 = .ok (.iload_n 1, 1) := by decide +kernel
theorem dX3_aboutOf_56 : decode cX3_aboutOf 56 = .ok (.iaload, 1) := by decide +kernel
theorem dX3_aboutOf_57 : decode cX3_aboutOf 57 = .ok (.ireturn, 1) := by decide +kernel
theorem dX3_aboutOf_58 : decode cX3_aboutOf 58 = .ok (.aload_n 0, 1) := by decide +kernel
theorem dX3_aboutOf_59 : decode cX3_aboutOf 59 = .ok (.getfield 38, 3) := by decide +kernel
theorem dX3_aboutOf_62 : decode cX3_aboutOf 62 = .ok (.iload_n 1, 1) := by decide +kernel
theorem dX3_aboutOf_63 : decode cX3_aboutOf 63 = .ok (.iaload, 1) := by decide +kernel
theorem dX3_aboutOf_64 : decode cX3_aboutOf 64 = .ok (.ireturn, 1) := by decide +kernel
theorem dX3_aboutOf_65 : decode cX3_aboutOf 65 = .ok (.aload_n 0, 1) := by decide +kernel
theorem dX3_aboutOf_66 : decode cX3_aboutOf 66 = .ok (.getfield 41, 3) := by decide +kernel
theorem dX3_aboutOf_69 : decode cX3_aboutOf 69 = .ok (.iload_n 1, 1) := by decide +kernel
theorem dX3_aboutOf_70 : decode cX3_aboutOf 70 = .ok (.iaload, 1) := by decide +kernel
theorem dX3_aboutOf_71 : decode cX3_aboutOf 71 = .ok (.ireturn, 1) := by decide +kernel
theorem dX3_aboutOf_72 : decode cX3_aboutOf 72 = .ok (.aload_n 0, 1) := by decide +kernel
theorem dX3_aboutOf_73 : decode cX3_aboutOf 73 = .ok (.iload_n 1, 1) := by decide +kernel
theorem dX3_aboutOf_74 : decode cX3_aboutOf 74 = .ok (.invokevirtual 121, 3) := by decide +kernel
theorem dX3_aboutOf_77 : decode cX3_aboutOf 77 = .ok (.ifCond .eq 7, 3) := by decide +kernel
theorem dX3_aboutOf_80 : decode cX3_aboutOf 80 = .ok (.iconst 1, 1) := by decide +kernel
theorem dX3_aboutOf_81 : decode cX3_aboutOf 81 = .ok (.goto 4, 3) := by decide +kernel
theorem dX3_aboutOf_84 : decode cX3_aboutOf 84 = .ok (.iconst 0, 1) := by decide +kernel
theorem dX3_aboutOf_85 : decode cX3_aboutOf 85 = .ok (.ireturn, 1) := by decide +kernel
theorem dX3_aboutOf_86 : decode cX3_aboutOf 86 = .ok (.aload_n 0, 1) := by decide +kernel
theorem dX3_aboutOf_87 : decode cX3_aboutOf 87 = .ok (.getfield 66, 3) := by decide +kernel
theorem dX3_aboutOf_90 : decode cX3_aboutOf 90 = .ok (.iload_n 1, 1) := by decide +kernel
theorem dX3_aboutOf_91 : decode cX3_aboutOf 91 = .ok (.baload, 1) := by decide +kernel
theorem dX3_aboutOf_92 : decode cX3_aboutOf 92 = .ok (.ifCond .eq 7, 3) := by decide +kernel
theorem dX3_aboutOf_95 : decode cX3_aboutOf 95 = .ok (.iconst 1, 1) := by decide +kernel
theorem dX3_aboutOf_96 : decode cX3_aboutOf 96 = .ok (.goto 4, 3) := by decide +kernel
theorem dX3_aboutOf_99 : decode cX3_aboutOf 99 = .ok (.iconst 0, 1) := by decide +kernel
theorem dX3_aboutOf_100 : decode cX3_aboutOf 100 = .ok (.ireturn, 1) := by decide +kernel
theorem dX3_aboutOf_101 : decode cX3_aboutOf 101 = .ok (.aload_n 0, 1) := by decide +kernel
theorem dX3_aboutOf_102 : decode cX3_aboutOf 102 = .ok (.getfield 44, 3) := by decide +kernel
theorem dX3_aboutOf_105 : decode cX3_aboutOf 105 = .ok (.iload_n 1, 1) := by decide +kernel
theorem dX3_aboutOf_106 : decode cX3_aboutOf 106 = .ok (.baload, 1) := by decide +kernel
theorem dX3_aboutOf_107 : decode cX3_aboutOf 107 = .ok (.ifCond .eq 7, 3) := by decide +kernel
theorem dX3_aboutOf_110 : decode cX3_aboutOf 110 = .ok (.iconst 1, 1) := by decide +kernel
theorem dX3_aboutOf_111 : decode cX3_aboutOf 111 = .ok (.goto 4, 3) := by decide +kernel
theorem dX3_aboutOf_114 : decode cX3_aboutOf 114 = .ok (.iconst 0, 1) := by decide +kernel
theorem dX3_aboutOf_115 : decode cX3_aboutOf 115 = .ok (.ireturn, 1) := by decide +kernel
theorem dX3_aboutOf_116 : decode cX3_aboutOf 116 = .ok (.aload_n 0, 1) := by decide +kernel
theorem dX3_aboutOf_117 : decode cX3_aboutOf 117 = .ok (.getfield 7, 3) := by decide +kernel
theorem dX3_aboutOf_120 : decode cX3_aboutOf 120 = .ok (.iload_n 1, 1) := by decide +kernel
theorem dX3_aboutOf_121 : decode cX3_aboutOf 121 = .ok (.iaload, 1) := by decide +kernel
theorem dX3_aboutOf_122 : decode cX3_aboutOf 122 = .ok (.ireturn, 1) := by decide +kernel
set_option maxRecDepth 20000 in
theorem ggX3_about_X3_isCheck : GoodIn wsX3_about wsX3_isCheck := goodIn_r _ [5, 6, 7, 8, 4, 9, 26, 27, 28, 29, 30, 31, 32, 33, 34, 35, 36, 37, 38, 39, 40, 41, 42, 43, 44, 45, 46, 47, 48, 49, 50, 51, 52, 53, 54, 55, 56, 57, 58] (by decide +kernel) (by decide +kernel)
set_option maxRecDepth 20000 in
theorem gX3_about_X3_isCheck : GoodIn wsX3_about (wsV RX3 100 RX3 yX3_isCheck wsX3_isCheck) := goodIn_app (goodIn_of _ (by decide +kernel)) ggX3_about_X3_isCheck
set_option maxRecDepth 20000 in
theorem ggX3_about_X3_in : GoodIn wsX3_about wsX3_in := goodIn_r _ [9] (by decide +kernel) (by decide +kernel)
set_option maxRecDepth 20000 in
theorem gX3_about_X3_in : GoodIn wsX3_about (va_wsS RX3 96 yX3_in wsX3_in) := goodIn_app (goodIn_of _ (by decide +kernel)) ggX3_about_X3_in
set_option maxRecDepth 20000 in
theorem ggX3_about_X3_aboutOf : GoodIn wsX3_about wsX3_aboutOf := goodIn_r _ [13, 14, 15, 16, 17, 18, 19, 20, 21, 22, 23, 4, 24, 25, 26, 27, 28, 29, 30, 31, 32, 33, 34, 35, 36, 37, 38, 39, 40, 41, 42, 43, 44, 45, 46, 47, 48, 49, 50, 51, 52, 53, 54, 55, 56, 57, 58] (by decide +kernel) (by decide +kernel)
set_option maxRecDepth 20000 in
theorem gX3_about_X3_aboutOf : GoodIn wsX3_about (wsV RX3 137 RX3 yX3_aboutOf wsX3_aboutOf) := goodIn_app (goodIn_of _ (by decide +kernel)) ggX3_about_X3_aboutOf
theorem dX3_about_0 : decode cX3_about 0 = .ok (.aload_n 0, 1) := by decide +kernel
theorem dX3_about_1 : decode cX3_about 1 = .ok (.iload_n 1, 1) := by decide +kernel
theorem dX3_about_2 : decode cX3_about 2 = .ok (.invokevirtual 100, 3) := by decide +kernel
theorem dX3_about_5 : decode cX3_about 5 = .ok (.ifCond .eq 22, 3) := by decide +kernel
theorem dX3_about_8 : decode cX3_about 8 = .ok (.iload_n 2, 1) := by decide +kernel
theorem dX3_about_9 : decode cX3_about 9 = .ok (.iconst 0, 1) := by decide +kernel
theorem dX3_about_10 : decode cX3_about 10 = .ok (.bipush 7, 2) := by decide +kernel
theorem dX3_about_12 : decode cX3_about 12 = .ok (.invokestatic 96, 3) := by decide +kernel
theorem dX3_about_15 : decode cX3_about 15 = .ok (.ifCond .eq 12, 3) := by decide +kernel
theorem dX3_about_18 : decode cX3_about 18 = .ok (.aload_n 0, 1) := by decide +kernel
theorem dX3_about_19 : decode cX3_about 19 = .ok (.iload_n 1, 1) := by decide +kernel
theorem dX3_about_20 : decode cX3_about 20 = .ok (.iload_n 2, 1) := by decide +kernel
theorem dX3_about_21 : decode cX3_about 21 = .ok (.invokevirtual 137, 3) := by decide +kernel
theorem dX3_about_24 : decode cX3_about 24 = .ok (.goto 5, 3) := by decide +kernel
theorem dX3_about_27 : decode cX3_about 27 = .ok (.bipush (-2), 2) := by decide +kernel
theorem dX3_about_29 : decode cX3_about 29 = .ok (.ireturn, 1) := by decide +kernel
set_option maxRecDepth 20000 in
theorem ggX3_frozen_X3_isCheck : GoodIn wsX3_frozen wsX3_isCheck := goodIn_r _ [7, 8, 9, 10, 6, 11, 12, 13, 14, 15, 16, 17, 18, 19, 20, 21, 22, 23, 24, 25, 26, 27, 28, 29, 30, 31, 32, 33, 34, 35, 36, 37, 38, 39, 40, 41, 42, 43, 44] (by decide +kernel) (by decide +kernel)
set_option maxRecDepth 20000 in
theorem gX3_frozen_X3_isCheck : GoodIn wsX3_frozen (wsV RX3 100 RX3 yX3_isCheck wsX3_isCheck) := goodIn_app (goodIn_of _ (by decide +kernel)) ggX3_frozen_X3_isCheck
set_option maxRecDepth 20000 in
theorem ggX3_frozen_X3_in : GoodIn wsX3_frozen wsX3_in := goodIn_r _ [11] (by decide +kernel) (by decide +kernel)
set_option maxRecDepth 20000 in
theorem gX3_frozen_X3_in : GoodIn wsX3_frozen (va_wsS RX3 96 yX3_in wsX3_in) := goodIn_app (goodIn_of _ (by decide +kernel)) ggX3_frozen_X3_in
theorem dX3_frozen_0 : decode cX3_frozen 0 = .ok (.aload_n 0, 1) := by decide +kernel
theorem dX3_frozen_1 : decode cX3_frozen 1 = .ok (.iload_n 1, 1) := by decide +kernel
theorem dX3_frozen_2 : decode cX3_frozen 2 = .ok (.invokevirtual 100, 3) := by decide +kernel
theorem dX3_frozen_5 : decode cX3_frozen 5 = .ok (.ifCond .eq 34, 3) := by decide +kernel
theorem dX3_frozen_8 : decode cX3_frozen 8 = .ok (.iload_n 2, 1) := by decide +kernel
theorem dX3_frozen_9 : decode cX3_frozen 9 = .ok (.iconst 0, 1) := by decide +kernel
theorem dX3_frozen_10 : decode cX3_frozen 10 = .ok (.iconst 3, 1) := by decide +kernel
theorem dX3_frozen_11 : decode cX3_frozen 11 = .ok (.invokestatic 96, 3) := by decide +kernel
theorem dX3_frozen_14 : decode cX3_frozen 14 = .ok (.ifCond .eq 25, 3) := by decide +kernel
theorem dX3_frozen_17 : decode cX3_frozen 17 = .ok (.aload_n 0, 1) := by decide +kernel
theorem dX3_frozen_18 : decode cX3_frozen 18 = .ok (.getfield 66, 3) := by decide +kernel
theorem dX3_frozen_21 : decode cX3_frozen 21 = .ok (.iload_n 1, 1) := by decide +kernel
theorem dX3_frozen_22 : decode cX3_frozen 22 = .ok (.baload, 1) := by decide +kernel
theorem dX3_frozen_23 : decode cX3_frozen 23 = .ok (.ifCond .eq 16, 3) := by decide +kernel
theorem dX3_frozen_26 : decode cX3_frozen 26 = .ok (.aload_n 0, 1) := by decide +kernel
theorem dX3_frozen_27 : decode cX3_frozen 27 = .ok (.getfield 69, 3) := by decide +kernel
theorem dX3_frozen_30 : decode cX3_frozen 30 = .ok (.iconst 4, 1) := by decide +kernel
theorem dX3_frozen_31 : decode cX3_frozen 31 = .ok (.iload_n 1, 1) := by decide +kernel
theorem dX3_frozen_32 : decode cX3_frozen 32 = .ok (.imul, 1) := by decide +kernel
theorem dX3_frozen_33 : decode cX3_frozen 33 = .ok (.iload_n 2, 1) := by decide +kernel
theorem dX3_frozen_34 : decode cX3_frozen 34 = .ok (.iadd, 1) := by decide +kernel
theorem dX3_frozen_35 : decode cX3_frozen 35 = .ok (.iaload, 1) := by decide +kernel
theorem dX3_frozen_36 : decode cX3_frozen 36 = .ok (.goto 6, 3) := by decide +kernel
theorem dX3_frozen_39 : decode cX3_frozen 39 = .ok (.sipush (-2000), 3) := by decide +kernel
theorem dX3_frozen_42 : decode cX3_frozen 42 = .ok (.ireturn, 1) := by decide +kernel
set_option maxRecDepth 20000 in
theorem ggX3_frozenAt_X3_isCheck : GoodIn wsX3_frozenAt wsX3_isCheck := goodIn_r _ [7, 8, 9, 10, 6, 11, 12, 13, 14, 15, 16, 17, 18, 19, 20, 21, 22, 23, 24, 25, 26, 27, 28, 29, 30, 31, 32, 33, 34, 35, 36, 37, 38, 39, 40, 41, 42, 43, 44] (by decide +kernel) (by decide +kernel)
set_option maxRecDepth 20000 in
theorem gX3_frozenAt_X3_isCheck : GoodIn wsX3_frozenAt (wsV RX3 100 RX3 yX3_isCheck wsX3_isCheck) := goodIn_app (goodIn_of _ (by decide +kernel)) ggX3_frozenAt_X3_isCheck
theorem dX3_frozenAt_0 : decode cX3_frozenAt 0 = .ok (.aload_n 0, 1) := by decide +kernel
theorem dX3_frozenAt_1 : decode cX3_frozenAt 1 = .ok (.iload_n 1, 1) := by decide +kernel
theorem dX3_frozenAt_2 : decode cX3_frozenAt 2 = .ok (.invokevirtual 100, 3) := by decide +kernel
theorem dX3_frozenAt_5 : decode cX3_frozenAt 5 = .ok (.ifCond .ne 8, 3) := by decide +kernel
theorem dX3_frozenAt_8 : decode cX3_frozenAt 8 = .ok (.bipush (-2), 2) := by decide +kernel
theorem dX3_frozenAt_10 : decode cX3_frozenAt 10 = .ok (.goto 22, 3) := by decide +kernel
theorem dX3_frozenAt_13 : decode cX3_frozenAt 13 = .ok (.aload_n 0, 1) := by decide +kernel
theorem dX3_frozenAt_14 : decode cX3_frozenAt 14 = .ok (.getfield 66, 3) := by decide +kernel
theorem dX3_frozenAt_17 : decode cX3_frozenAt 17 = .ok (.iload_n 1, 1) := by decide +kernel
theorem dX3_frozenAt_18 : decode cX3_frozenAt 18 = .ok (.baload, 1) := by decide +kernel
theorem dX3_frozenAt_19 : decode cX3_frozenAt 19 = .ok (.ifCond .eq 12, 3) := by decide +kernel
theorem dX3_frozenAt_22 : decode cX3_frozenAt 22 = .ok (.aload_n 0, 1) := by decide +kernel
theorem dX3_frozenAt_23 : decode cX3_frozenAt 23 = .ok (.getfield 72, 3) := by decide +kernel
theorem dX3_frozenAt_26 : decode cX3_frozenAt 26 = .ok (.iload_n 1, 1) := by decide +kernel
theorem dX3_frozenAt_27 : decode cX3_frozenAt 27 = .ok (.iaload, 1) := by decide +kernel
theorem dX3_frozenAt_28 : decode cX3_frozenAt 28 = .ok (.goto 4, 3) := by decide +kernel
theorem dX3_frozenAt_31 : decode cX3_frozenAt 31 = .ok (.iconst (-1), 1) := by decide +kernel
theorem dX3_frozenAt_32 : decode cX3_frozenAt 32 = .ok (.ireturn, 1) := by decide +kernel
theorem dX3_lamp_0 : decode cX3_lamp 0 = .ok (.iconst 0, 1) := by decide +kernel
theorem dX3_lamp_1 : decode cX3_lamp 1 = .ok (.istore_n 1, 1) := by decide +kernel
theorem dX3_lamp_2 : decode cX3_lamp 2 = .ok (.iload_n 1, 1) := by decide +kernel
theorem dX3_lamp_3 : decode cX3_lamp 3 = .ok (.aload_n 0, 1) := by decide +kernel
theorem dX3_lamp_4 : decode cX3_lamp 4 = .ok (.getfield 93, 3) := by decide +kernel
theorem dX3_lamp_7 : decode cX3_lamp 7 = .ok (.if_icmp .ge 30, 3) := by decide +kernel
theorem dX3_lamp_10 : decode cX3_lamp 10 = .ok (.aload_n 0, 1) := by decide +kernel
theorem dX3_lamp_11 : decode cX3_lamp 11 = .ok (.getfield 28, 3) := by decide +kernel
theorem dX3_lamp_14 : decode cX3_lamp 14 = .ok (.iload_n 1, 1) := by decide +kernel
theorem dX3_lamp_15 : decode cX3_lamp 15 = .ok (.baload, 1) := by decide +kernel
theorem dX3_lamp_16 : decode cX3_lamp 16 = .ok (.ifCond .eq 15, 3) := by decide +kernel
theorem dX3_lamp_19 : decode cX3_lamp 19 = .ok (.aload_n 0, 1) := by decide +kernel
theorem dX3_lamp_20 : decode cX3_lamp 20 = .ok (.getfield 32, 3) := by decide +kernel
theorem dX3_lamp_23 : decode cX3_lamp 23 = .ok (.iload_n 1, 1) := by decide +kernel
theorem dX3_lamp_24 : decode cX3_lamp 24 = .ok (.iaload, 1) := by decide +kernel
theorem dX3_lamp_25 : decode cX3_lamp 25 = .ok (.iconst 2, 1) := by decide +kernel
theorem dX3_lamp_26 : decode cX3_lamp 26 = .ok (.if_icmp .ne 5, 3) := by decide +kernel
theorem dX3_lamp_29 : decode cX3_lamp 29 = .ok (.iconst 1, 1) := by decide +kernel
theorem dX3_lamp_30 : decode cX3_lamp 30 = .ok (.ireturn, 1) := by decide +kernel
theorem dX3_lamp_31 : decode cX3_lamp 31 = .ok (.iinc 1 1, 3) := by decide +kernel
theorem dX3_lamp_34 : decode cX3_lamp 34 = .ok (.goto (-32), 3) := by decide +kernel
theorem dX3_lamp_37 : decode cX3_lamp 37 = .ok (.iconst 0, 1) := by decide +kernel
theorem dX3_lamp_38 : decode cX3_lamp 38 = .ok (.ireturn, 1) := by decide +kernel
theorem dX3_clear_0 : decode cX3_clear 0 = .ok (.aload_n 0, 1) := by decide +kernel
theorem dX3_clear_1 : decode cX3_clear 1 = .ok (.getfield 104, 3) := by decide +kernel
theorem dX3_clear_4 : decode cX3_clear 4 = .ok (.ifCond .eq 6, 3) := by decide +kernel
theorem dX3_clear_7 : decode cX3_clear 7 = .ok (.bipush (-3), 2) := by decide +kernel
theorem dX3_clear_9 : decode cX3_clear 9 = .ok (.ireturn, 1) := by decide +kernel
theorem dX3_clear_10 : decode cX3_clear 10 = .ok (.iconst 0, 1) := by decide +kernel
theorem dX3_clear_11 : decode cX3_clear 11 = .ok (.istore_n 1, 1) := by decide +kernel
theorem dX3_clear_12 : decode cX3_clear 12 = .ok (.iconst 0, 1) := by decide +kernel
theorem dX3_clear_13 : decode cX3_clear 13 = .ok (.istore_n 2, 1) := by decide +kernel
theorem dX3_clear_14 : decode cX3_clear 14 = .ok (.iload_n 2, 1) := by decide +kernel
theorem dX3_clear_15 : decode cX3_clear 15 = .ok (.aload_n 0, 1) := by decide +kernel
theorem dX3_clear_16 : decode cX3_clear 16 = .ok (.getfield 93, 3) := by decide +kernel
theorem dX3_clear_19 : decode cX3_clear 19 = .ok (.if_icmp .ge 78, 3) := by decide +kernel
theorem dX3_clear_22 : decode cX3_clear 22 = .ok (.aload_n 0, 1) := by decide +kernel
theorem dX3_clear_23 : decode cX3_clear 23 = .ok (.getfield 35, 3) := by decide +kernel
theorem dX3_clear_26 : decode cX3_clear 26 = .ok (.iload_n 2, 1) := by decide +kernel
theorem dX3_clear_27 : decode cX3_clear 27 = .ok (.iconst 0, 1) := by decide +kernel
theorem dX3_clear_28 : decode cX3_clear 28 = .ok (.iastore, 1) := by decide +kernel
theorem dX3_clear_29 : decode cX3_clear 29 = .ok (.aload_n 0, 1) := by decide +kernel
theorem dX3_clear_30 : decode cX3_clear 30 = .ok (.getfield 38, 3) := by decide +kernel
theorem dX3_clear_33 : decode cX3_clear 33 = .ok (.iload_n 2, 1) := by decide +kernel
theorem dX3_clear_34 : decode cX3_clear 34 = .ok (.iconst 0, 1) := by decide +kernel
theorem dX3_clear_35 : decode cX3_clear 35 = .ok (.iastore, 1) := by decide +kernel
theorem dX3_clear_36 : decode cX3_clear 36 = .ok (.aload_n 0, 1) := by decide +kernel
theorem dX3_clear_37 : decode cX3_clear 37 = .ok (.getfield 41, 3) := by decide +kernel
theorem dX3_clear_40 : decode cX3_clear 40 = .ok (.iload_n 2, 1) := by decide +kernel
theorem dX3_clear_41 : decode cX3_clear 41 = .ok (.iconst 0, 1) := by decide +kernel
theorem dX3_clear_42 : decode cX3_clear 42 = .ok (.iastore, 1) := by decide +kernel
theorem dX3_clear_43 : decode cX3_clear 43 = .ok (.aload_n 0, 1) := by decide +kernel
theorem dX3_clear_44 : decode cX3_clear 44 = .ok (.getfield 44, 3) := by decide +kernel
theorem dX3_clear_47 : decode cX3_clear 47 = .ok (.iload_n 2, 1) := by decide +kernel
theorem dX3_clear_48 : decode cX3_clear 48 = .ok (.iconst 0, 1) := by decide +kernel
theorem dX3_clear_49 : decode cX3_clear 49 = .ok (.bastore, 1) := by decide +kernel
theorem dX3_clear_50 : decode cX3_clear 50 = .ok (.aload_n 0, 1) := by decide +kernel
theorem dX3_clear_51 : decode cX3_clear 51 = .ok (.getfield 7, 3) := by decide +kernel
theorem dX3_clear_54 : decode cX3_clear 54 = .ok (.iload_n 2, 1) := by decide +kernel
theorem dX3_clear_55 : decode cX3_clear 55 = .ok (.iaload, 1) := by decide +kernel
theorem dX3_clear_56 : decode cX3_clear 56 = .ok (.iconst 1, 1) := by decide +kernel
theorem dX3_clear_57 : decode cX3_clear 57 = .ok (.if_icmp .eq 34, 3) := by decide +kernel
theorem dX3_clear_60 : decode cX3_clear 60 = .ok (.iload_n 1, 1) := by decide +kernel
theorem dX3_clear_61 : decode cX3_clear 61 = .ok (.aload_n 0, 1) := by decide +kernel
theorem dX3_clear_62 : decode cX3_clear 62 = .ok (.getfield 32, 3) := by decide +kernel
theorem dX3_clear_65 : decode cX3_clear 65 = .ok (.iload_n 2, 1) := by decide +kernel
theorem dX3_clear_66 : decode cX3_clear 66 = .ok (.iaload, 1) := by decide +kernel
theorem dX3_clear_67 : decode cX3_clear 67 = .ok (.ifCond .ne 7, 3) := by decide +kernel
theorem dX3_clear_70 : decode cX3_clear 70 = .ok (.iconst 0, 1) := by decide +kernel
theorem dX3_clear_71 : decode cX3_clear 71 = .ok (.goto 4, 3) := by decide +kernel
theorem dX3_clear_74 : decode cX3_clear 74 = .ok (.iconst 1, 1) := by decide +kernel
theorem dX3_clear_75 : decode cX3_clear 75 = .ok (.iadd, 1) := by decide +kernel
theorem dX3_clear_76 : decode cX3_clear 76 = .ok (.istore_n 1, 1) := by decide +kernel
theorem dX3_clear_77 : decode cX3_clear 77 = .ok (.aload_n 0, 1) := by decide +kernel
theorem dX3_clear_78 : decode cX3_clear 78 = .ok (.getfield 32, 3) := by decide +kernel
theorem dX3_clear_81 : decode cX3_clear 81 = .ok (.iload_n 2, 1) := by decide +kernel
theorem dX3_clear_82 : decode cX3_clear 82 = .ok (.iconst 0, 1) := by decide +kernel
theorem dX3_clear_83 : decode cX3_clear 83 = .ok (.iastore, 1) := by decide +kernel
theorem dX3_clear_84 : decode cX3_clear 84 = .ok (.aload_n 0, 1) := by decide +kernel
theorem dX3_clear_85 : decode cX3_clear 85 = .ok (.getfield 66, 3) := by decide +kernel
theorem dX3_clear_88 : decode cX3_clear 88 = .ok (.iload_n 2, 1) := by decide +kernel
theorem dX3_clear_89 : decode cX3_clear 89 = .ok (.iconst 0, 1) := by decide +kernel
theorem dX3_clear_90 : decode cX3_clear 90 = .ok (.bastore, 1) := by decide +kernel
theorem dX3_clear_91 : decode cX3_clear 91 = .ok (.iinc 2 1, 3) := by decide +kernel
theorem dX3_clear_94 : decode cX3_clear 94 = .ok (.goto (-80), 3) := by decide +kernel
theorem dX3_clear_97 : decode cX3_clear 97 = .ok (.iload_n 1, 1) := by decide +kernel
theorem dX3_clear_98 : decode cX3_clear 98 = .ok (.ireturn, 1) := by decide +kernel
set_option maxRecDepth 20000 in
theorem ggX3_cause_X3_in : GoodIn wsX3_cause wsX3_in := goodIn_r _ [8] (by decide +kernel) (by decide +kernel)
set_option maxRecDepth 20000 in
theorem gX3_cause_X3_in : GoodIn wsX3_cause (va_wsS RX3 96 yX3_in wsX3_in) := goodIn_app (goodIn_of _ (by decide +kernel)) ggX3_cause_X3_in
theorem dX3_cause_0 : decode cX3_cause 0 = .ok (.iload_n 1, 1) := by decide +kernel
theorem dX3_cause_1 : decode cX3_cause 1 = .ok (.iconst 1, 1) := by decide +kernel
theorem dX3_cause_2 : decode cX3_cause 2 = .ok (.iconst 1, 1) := by decide +kernel
theorem dX3_cause_3 : decode cX3_cause 3 = .ok (.aload_n 0, 1) := by decide +kernel
theorem dX3_cause_4 : decode cX3_cause 4 = .ok (.getfield 93, 3) := by decide +kernel
theorem dX3_cause_7 : decode cX3_cause 7 = .ok (.ishl, 1) := by decide +kernel
theorem dX3_cause_8 : decode cX3_cause 8 = .ok (.iconst 1, 1) := by decide +kernel
theorem dX3_cause_9 : decode cX3_cause 9 = .ok (.isub, 1) := by decide +kernel
theorem dX3_cause_10 : decode cX3_cause 10 = .ok (.invokestatic 96, 3) := by decide +kernel
theorem dX3_cause_13 : decode cX3_cause 13 = .ok (.ifCond .eq 14, 3) := by decide +kernel
theorem dX3_cause_16 : decode cX3_cause 16 = .ok (.iload_n 2, 1) := by decide +kernel
theorem dX3_cause_17 : decode cX3_cause 17 = .ok (.iconst 1, 1) := by decide +kernel
theorem dX3_cause_18 : decode cX3_cause 18 = .ok (.sipush 1000, 3) := by decide +kernel
theorem dX3_cause_21 : decode cX3_cause 21 = .ok (.invokestatic 96, 3) := by decide +kernel
theorem dX3_cause_24 : decode cX3_cause 24 = .ok (.ifCond .ne 6, 3) := by decide +kernel
theorem dX3_cause_27 : decode cX3_cause 27 = .ok (.bipush (-2), 2) := by decide +kernel
theorem dX3_cause_29 : decode cX3_cause 29 = .ok (.ireturn, 1) := by decide +kernel
theorem dX3_cause_30 : decode cX3_cause 30 = .ok (.aload_n 0, 1) := by decide +kernel
theorem dX3_cause_31 : decode cX3_cause 31 = .ok (.getfield 141, 3) := by decide +kernel
theorem dX3_cause_34 : decode cX3_cause 34 = .ok (.bipush 10, 2) := by decide +kernel
theorem dX3_cause_36 : decode cX3_cause 36 = .ok (.if_icmp .ne 6, 3) := by decide +kernel
theorem dX3_cause_39 : decode cX3_cause 39 = .ok (.bipush (-4), 2) := by decide +kernel
theorem dX3_cause_41 : decode cX3_cause 41 = .ok (.ireturn, 1) := by decide +kernel
theorem dX3_cause_42 : decode cX3_cause 42 = .ok (.aload_n 0, 1) := by decide +kernel
theorem dX3_cause_43 : decode cX3_cause 43 = .ok (.getfield 78, 3) := by decide +kernel
theorem dX3_cause_46 : decode cX3_cause 46 = .ok (.aload_n 0, 1) := by decide +kernel
theorem dX3_cause_47 : decode cX3_cause 47 = .ok (.getfield 141, 3) := by decide +kernel
theorem dX3_cause_50 : decode cX3_cause 50 = .ok (.iload_n 1, 1) := by decide +kernel
theorem dX3_cause_51 : decode cX3_cause 51 = .ok (.iastore, 1) := by decide +kernel
theorem dX3_cause_52 : decode cX3_cause 52 = .ok (.aload_n 0, 1) := by decide +kernel
theorem dX3_cause_53 : decode cX3_cause 53 = .ok (.getfield 81, 3) := by decide +kernel
theorem dX3_cause_56 : decode cX3_cause 56 = .ok (.aload_n 0, 1) := by decide +kernel
theorem dX3_cause_57 : decode cX3_cause 57 = .ok (.getfield 141, 3) := by decide +kernel
theorem dX3_cause_60 : decode cX3_cause 60 = .ok (.iload_n 2, 1) := by decide +kernel
theorem dX3_cause_61 : decode cX3_cause 61 = .ok (.iastore, 1) := by decide +kernel
theorem dX3_cause_62 : decode cX3_cause 62 = .ok (.aload_n 0, 1) := by decide +kernel
theorem dX3_cause_63 : decode cX3_cause 63 = .ok (.dup, 1) := by decide +kernel
theorem dX3_cause_64 : decode cX3_cause 64 = .ok (.getfield 141, 3) := by decide +kernel
theorem dX3_cause_67 : decode cX3_cause 67 = .ok (.iconst 1, 1) := by decide +kernel
theorem dX3_cause_68 : decode cX3_cause 68 = .ok (.iadd, 1) := by decide +kernel
theorem dX3_cause_69 : decode cX3_cause 69 = .ok (.putfield 141, 3) := by decide +kernel
theorem dX3_cause_72 : decode cX3_cause 72 = .ok (.aload_n 0, 1) := by decide +kernel
theorem dX3_cause_73 : decode cX3_cause 73 = .ok (.getfield 141, 3) := by decide +kernel
theorem dX3_cause_76 : decode cX3_cause 76 = .ok (.iconst 1, 1) := by decide +kernel
theorem dX3_cause_77 : decode cX3_cause 77 = .ok (.isub, 1) := by decide +kernel
theorem dX3_cause_78 : decode cX3_cause 78 = .ok (.ireturn, 1) := by decide +kernel
theorem dX3_doesExplain_0 : decode cX3_doesExplain 0 = .ok (.iconst 0, 1) := by decide +kernel
theorem dX3_doesExplain_1 : decode cX3_doesExplain 1 = .ok (.istore_n 2, 1) := by decide +kernel
theorem dX3_doesExplain_2 : decode cX3_doesExplain 2 = .ok (.iconst 0, 1) := by decide +kernel
theorem dX3_doesExplain_3 : decode cX3_doesExplain 3 = .ok (.istore_n 3, 1) := by decide +kernel
theorem dX3_doesExplain_4 : decode cX3_doesExplain 4 = .ok (.iload_n 3, 1) := by decide +kernel
theorem dX3_doesExplain_5 : decode cX3_doesExplain 5 = .ok (.aload_n 0, 1) := by decide +kernel
theorem dX3_doesExplain_6 : decode cX3_doesExplain 6 = .ok (.getfield 141, 3) := by decide +kernel
theorem dX3_doesExplain_9 : decode cX3_doesExplain 9 = .ok (.if_icmp .ge 31, 3) := by decide +kernel
theorem dX3_doesExplain_12 : decode cX3_doesExplain 12 = .ok (.iload_n 2, 1) := by decide +kernel
theorem dX3_doesExplain_13 : decode cX3_doesExplain 13 = .ok (.iload_n 1, 1) := by decide +kernel
theorem dX3_doesExplain_14 : decode cX3_doesExplain 14 = .ok (.iload_n 3, 1) := by decide +kernel
theorem dX3_doesExplain_15 : decode cX3_doesExplain 15 = .ok (.ishr, 1) := by decide +kernel
theorem dX3_doesExplain_16 : decode cX3_doesExplain 16 = .ok (.iconst 1, 1) := by decide +kernel
theorem dX3_doesExplain_17 : decode cX3_doesExplain 17 = .ok (.iand, 1) := by decide +kernel
theorem dX3_doesExplain_18 : decode cX3_doesExplain 18 = .ok (.iconst 1, 1) := by decide +kernel
theorem dX3_doesExplain_19 : decode cX3_doesExplain 19 = .ok (.if_icmp .ne 12, 3) := by decide +kernel
theorem dX3_doesExplain_22 : decode cX3_doesExplain 22 = .ok (.aload_n 0, 1) := by decide +kernel
theorem dX3_doesExplain_23 : decode cX3_doesExplain 23 = .ok (.getfield 78, 3) := by decide +kernel
theorem dX3_doesExplain_26 : decode cX3_doesExplain 26 = .ok (.iload_n 3, 1) := by decide +kernel
theorem dX3_doesExplain_27 : decode cX3_doesExplain 27 = .ok (.iaload, 1) := by decide +kernel
theorem dX3_doesExplain_28 : decode cX3_doesExplain 28 = .ok (.goto 4, 3) := by decide +kernel
theorem dX3_doesExplain_31 : decode cX3_doesExplain 31 = .ok (.iconst 0, 1) := by decide +kernel
theorem dX3_doesExplain_32 : decode cX3_doesExplain 32 = .ok (.ior, 1) := by decide +kernel
theorem dX3_doesExplain_33 : decode cX3_doesExplain 33 = .ok (.istore_n 2, 1) := by decide +kernel
theorem dX3_doesExplain_34 : decode cX3_doesExplain 34 = .ok (.iinc 3 1, 3) := by decide +kernel
theorem dX3_doesExplain_37 : decode cX3_doesExplain 37 = .ok (.goto (-33), 3) := by decide +kernel
theorem dX3_doesExplain_40 : decode cX3_doesExplain 40 = .ok (.iconst 1, 1) := by decide +kernel
theorem dX3_doesExplain_41 : decode cX3_doesExplain 41 = .ok (.istore_n 3, 1) := by decide +kernel
theorem dX3_doesExplain_42 : decode cX3_doesExplain 42 = .ok (.iconst 0, 1) := by decide +kernel
theorem dX3_doesExplain_43 : decode cX3_doesExplain 43 = .ok (.istore 4, 2) := by decide +kernel
theorem dX3_doesExplain_45 : decode cX3_doesExplain 45 = .ok (.iload 4, 2) := by decide +kernel
theorem dX3_doesExplain_47 : decode cX3_doesExplain 47 = .ok (.aload_n 0, 1) := by decide +kernel
theorem dX3_doesExplain_48 : decode cX3_doesExplain 48 = .ok (.getfield 93, 3) := by decide +kernel
theorem dX3_doesExplain_51 : decode cX3_doesExplain 51 = .ok (.if_icmp .ge 63, 3) := by decide +kernel
theorem dX3_doesExplain_54 : decode cX3_doesExplain 54 = .ok (.iload_n 3, 1) := by decide +kernel
theorem dX3_doesExplain_55 : decode cX3_doesExplain 55 = .ok (.ifCond .eq 51, 3) := by decide +kernel
theorem dX3_doesExplain_58 : decode cX3_doesExplain 58 = .ok (.aload_n 0, 1) := by decide +kernel
theorem dX3_doesExplain_59 : decode cX3_doesExplain 59 = .ok (.getfield 44, 3) := by decide +kernel
theorem dX3_doesExplain_62 : decode cX3_doesExplain 62 = .ok (.iload 4, 2) := by decide +kernel
theorem dX3_doesExplain_64 : decode cX3_doesExplain 64 = .ok (.baload, 1) := by decide +kernel
theorem dX3_doesExplain_65 : decode cX3_doesExplain 65 = .ok (.ifCond .eq 37, 3) := by decide +kernel
theorem dX3_doesExplain_68 : decode cX3_doesExplain 68 = .ok (.aload_n 0, 1) := by decide +kernel
theorem dX3_doesExplain_69 : decode cX3_doesExplain 69 = .ok (.getfield 32, 3) := by decide +kernel
theorem dX3_doesExplain_72 : decode cX3_doesExplain 72 = .ok (.iload 4, 2) := by decide +kernel
theorem dX3_doesExplain_74 : decode cX3_doesExplain 74 = .ok (.iaload, 1) := by decide +kernel
theorem dX3_doesExplain_75 : decode cX3_doesExplain 75 = .ok (.iconst 2, 1) := by decide +kernel
theorem dX3_doesExplain_76 : decode cX3_doesExplain 76 = .ok (.if_icmp .ne 7, 3) := by decide +kernel
theorem dX3_doesExplain_79 : decode cX3_doesExplain 79 = .ok (.iconst 1, 1) := by decide +kernel
theorem dX3_doesExplain_80 : decode cX3_doesExplain 80 = .ok (.goto 4, 3) := by decide +kernel
theorem dX3_doesExplain_83 : decode cX3_doesExplain 83 = .ok (.iconst 0, 1) := by decide +kernel
theorem dX3_doesExplain_84 : decode cX3_doesExplain 84 = .ok (.iload_n 2, 1) := by decide +kernel
theorem dX3_doesExplain_85 : decode cX3_doesExplain 85 = .ok (.iload 4, 2) := by decide +kernel
theorem dX3_doesExplain_87 : decode cX3_doesExplain 87 = .ok (.ishr, 1) := by decide +kernel
theorem dX3_doesExplain_88 : decode cX3_doesExplain 88 = .ok (.iconst 1, 1) := by decide +kernel
theorem dX3_doesExplain_89 : decode cX3_doesExplain 89 = .ok (.iand, 1) := by decide +kernel
theorem dX3_doesExplain_90 : decode cX3_doesExplain 90 = .ok (.iconst 1, 1) := by decide +kernel
theorem dX3_doesExplain_91 : decode cX3_doesExplain 91 = .ok (.if_icmp .ne 7, 3) := by decide +kernel
theorem dX3_doesExplain_94 : decode cX3_doesExplain 94 = .ok (.iconst 1, 1) := by decide +kernel
theorem dX3_doesExplain_95 : decode cX3_doesExplain 95 = .ok (.goto 4, 3) := by decide +kernel
theorem dX3_doesExplain_98 : decode cX3_doesExplain 98 = .ok (.iconst 0, 1) := by decide +kernel
theorem dX3_doesExplain_99 : decode cX3_doesExplain 99 = .ok (.if_icmp .ne 7, 3) := by decide +kernel
end
section
theorem dX3_doesExplain_102 : decode cX3_doesExplain 102 = .ok (.iconst 1, 1) := by decide +kernel
theorem dX3_doesExplain_103 : decode cX3_doesExplain 103 = .ok (.goto 4, 3) := by decide +kernel
theorem dX3_doesExplain_106 : decode cX3_doesExplain 106 = .ok (.iconst 0, 1) := by decide +kernel
theorem dX3_doesExplain_107 : decode cX3_doesExplain 107 = .ok (.istore_n 3, 1) := by decide +kernel
theorem dX3_doesExplain_108 : decode cX3_doesExplain 108 = .ok (.iinc 4 1, 3) := by decide +kernel
theorem dX3_doesExplain_111 : decode cX3_doesExplain 111 = .ok (.goto (-66), 3) := by decide +kernel
theorem dX3_doesExplain_114 : decode cX3_doesExplain 114 = .ok (.iload_n 3, 1) := by decide +kernel
theorem dX3_doesExplain_115 : decode cX3_doesExplain 115 = .ok (.ireturn, 1) := by decide +kernel
set_option maxRecDepth 20000 in
theorem ggX3_explains_X3_in : GoodIn wsX3_explains wsX3_in := goodIn_r _ [5] (by decide +kernel) (by decide +kernel)
set_option maxRecDepth 20000 in
theorem gX3_explains_X3_in : GoodIn wsX3_explains (va_wsS RX3 96 yX3_in wsX3_in) := goodIn_app (goodIn_of _ (by decide +kernel)) ggX3_explains_X3_in
set_option maxRecDepth 20000 in
theorem ggX3_explains_X3_doesExplain : GoodIn wsX3_explains wsX3_doesExplain := goodIn_r _ [9, 1, 10, 11, 12, 13, 14, 15, 16, 17, 18, 19, 20, 21, 22, 23, 24, 25, 26, 27, 28, 29, 30, 31, 32, 33, 34, 35, 36, 37, 38, 39, 40, 41, 42, 43, 44, 45, 46] (by decide +kernel) (by decide +kernel)
set_option maxRecDepth 20000 in
theorem gX3_explains_X3_doesExplain : GoodIn wsX3_explains (wsV RX3 144 RX3 yX3_doesExplain wsX3_doesExplain) := goodIn_app (goodIn_of _ (by decide +kernel)) ggX3_explains_X3_doesExplain
theorem dX3_explains_0 : decode cX3_explains 0 = .ok (.iload_n 1, 1) := by decide +kernel
theorem dX3_explains_1 : decode cX3_explains 1 = .ok (.iconst 0, 1) := by decide +kernel
theorem dX3_explains_2 : decode cX3_explains 2 = .ok (.iconst 1, 1) := by decide +kernel
theorem dX3_explains_3 : decode cX3_explains 3 = .ok (.aload_n 0, 1) := by decide +kernel
theorem dX3_explains_4 : decode cX3_explains 4 = .ok (.getfield 141, 3) := by decide +kernel
theorem dX3_explains_7 : decode cX3_explains 7 = .ok (.ishl, 1) := by decide +kernel
theorem dX3_explains_8 : decode cX3_explains 8 = .ok (.iconst 1, 1) := by decide +kernel
theorem dX3_explains_9 : decode cX3_explains 9 = .ok (.isub, 1) := by decide +kernel
theorem dX3_explains_10 : decode cX3_explains 10 = .ok (.invokestatic 96, 3) := by decide +kernel
theorem dX3_explains_13 : decode cX3_explains 13 = .ok (.ifCond .ne 8, 3) := by decide +kernel
theorem dX3_explains_16 : decode cX3_explains 16 = .ok (.bipush (-2), 2) := by decide +kernel
theorem dX3_explains_18 : decode cX3_explains 18 = .ok (.goto 16, 3) := by decide +kernel
theorem dX3_explains_21 : decode cX3_explains 21 = .ok (.aload_n 0, 1) := by decide +kernel
theorem dX3_explains_22 : decode cX3_explains 22 = .ok (.iload_n 1, 1) := by decide +kernel
theorem dX3_explains_23 : decode cX3_explains 23 = .ok (.invokevirtual 144, 3) := by decide +kernel
theorem dX3_explains_26 : decode cX3_explains 26 = .ok (.ifCond .eq 7, 3) := by decide +kernel
theorem dX3_explains_29 : decode cX3_explains 29 = .ok (.iconst 1, 1) := by decide +kernel
theorem dX3_explains_30 : decode cX3_explains 30 = .ok (.goto 4, 3) := by decide +kernel
theorem dX3_explains_33 : decode cX3_explains 33 = .ok (.iconst 0, 1) := by decide +kernel
theorem dX3_explains_34 : decode cX3_explains 34 = .ok (.ireturn, 1) := by decide +kernel
theorem dX3_many_0 : decode cX3_many 0 = .ok (.iconst 0, 1) := by decide +kernel
theorem dX3_many_1 : decode cX3_many 1 = .ok (.istore_n 1, 1) := by decide +kernel
theorem dX3_many_2 : decode cX3_many 2 = .ok (.iload_n 0, 1) := by decide +kernel
theorem dX3_many_3 : decode cX3_many 3 = .ok (.istore_n 2, 1) := by decide +kernel
theorem dX3_many_4 : decode cX3_many 4 = .ok (.iload_n 2, 1) := by decide +kernel
theorem dX3_many_5 : decode cX3_many 5 = .ok (.ifCond .le 16, 3) := by decide +kernel
theorem dX3_many_8 : decode cX3_many 8 = .ok (.iload_n 1, 1) := by decide +kernel
theorem dX3_many_9 : decode cX3_many 9 = .ok (.iload_n 2, 1) := by decide +kernel
theorem dX3_many_10 : decode cX3_many 10 = .ok (.iconst 1, 1) := by decide +kernel
theorem dX3_many_11 : decode cX3_many 11 = .ok (.iand, 1) := by decide +kernel
theorem dX3_many_12 : decode cX3_many 12 = .ok (.iadd, 1) := by decide +kernel
theorem dX3_many_13 : decode cX3_many 13 = .ok (.istore_n 1, 1) := by decide +kernel
theorem dX3_many_14 : decode cX3_many 14 = .ok (.iload_n 2, 1) := by decide +kernel
theorem dX3_many_15 : decode cX3_many 15 = .ok (.iconst 1, 1) := by decide +kernel
theorem dX3_many_16 : decode cX3_many 16 = .ok (.ishr, 1) := by decide +kernel
theorem dX3_many_17 : decode cX3_many 17 = .ok (.istore_n 2, 1) := by decide +kernel
theorem dX3_many_18 : decode cX3_many 18 = .ok (.goto (-14), 3) := by decide +kernel
theorem dX3_many_21 : decode cX3_many 21 = .ok (.iload_n 1, 1) := by decide +kernel
theorem dX3_many_22 : decode cX3_many 22 = .ok (.ireturn, 1) := by decide +kernel
set_option maxRecDepth 20000 in
theorem ggX3_findLeast_X3_doesExplain : GoodIn wsX3_findLeast wsX3_doesExplain := goodIn_r _ [8, 2, 9, 10, 11, 12, 16, 17, 18, 19, 20, 21, 22, 23, 24, 25, 26, 27, 28, 29, 30, 31, 32, 33, 34, 35, 36, 37, 38, 39, 40, 41, 42, 43, 44, 45, 46, 47, 48] (by decide +kernel) (by decide +kernel)
set_option maxRecDepth 20000 in
theorem gX3_findLeast_X3_doesExplain : GoodIn wsX3_findLeast (wsV RX3 144 RX3 yX3_doesExplain wsX3_doesExplain) := goodIn_app (goodIn_of _ (by decide +kernel)) ggX3_findLeast_X3_doesExplain
set_option maxRecDepth 20000 in
theorem ggX3_findLeast_X3_many : GoodIn wsX3_findLeast wsX3_many := goodIn_r _ [15] (by decide +kernel) (by decide +kernel)
set_option maxRecDepth 20000 in
theorem gX3_findLeast_X3_many : GoodIn wsX3_findLeast (va_wsS RX3 150 yX3_many wsX3_many) := goodIn_app (goodIn_of _ (by decide +kernel)) ggX3_findLeast_X3_many
theorem dX3_findLeast_0 : decode cX3_findLeast 0 = .ok (.aload_n 0, 1) := by decide +kernel
theorem dX3_findLeast_1 : decode cX3_findLeast 1 = .ok (.iconst 0, 1) := by decide +kernel
theorem dX3_findLeast_2 : decode cX3_findLeast 2 = .ok (.putfield 147, 3) := by decide +kernel
theorem dX3_findLeast_5 : decode cX3_findLeast 5 = .ok (.iconst 0, 1) := by decide +kernel
theorem dX3_findLeast_6 : decode cX3_findLeast 6 = .ok (.istore_n 1, 1) := by decide +kernel
theorem dX3_findLeast_7 : decode cX3_findLeast 7 = .ok (.iconst 0, 1) := by decide +kernel
theorem dX3_findLeast_8 : decode cX3_findLeast 8 = .ok (.istore_n 2, 1) := by decide +kernel
theorem dX3_findLeast_9 : decode cX3_findLeast 9 = .ok (.iload_n 2, 1) := by decide +kernel
theorem dX3_findLeast_10 : decode cX3_findLeast 10 = .ok (.iconst 1, 1) := by decide +kernel
theorem dX3_findLeast_11 : decode cX3_findLeast 11 = .ok (.aload_n 0, 1) := by decide +kernel
theorem dX3_findLeast_12 : decode cX3_findLeast 12 = .ok (.getfield 141, 3) := by decide +kernel
theorem dX3_findLeast_15 : decode cX3_findLeast 15 = .ok (.ishl, 1) := by decide +kernel
theorem dX3_findLeast_16 : decode cX3_findLeast 16 = .ok (.if_icmp .ge 93, 3) := by decide +kernel
theorem dX3_findLeast_19 : decode cX3_findLeast 19 = .ok (.aload_n 0, 1) := by decide +kernel
theorem dX3_findLeast_20 : decode cX3_findLeast 20 = .ok (.iload_n 2, 1) := by decide +kernel
theorem dX3_findLeast_21 : decode cX3_findLeast 21 = .ok (.invokevirtual 144, 3) := by decide +kernel
theorem dX3_findLeast_24 : decode cX3_findLeast 24 = .ok (.ifCond .eq 79, 3) := by decide +kernel
theorem dX3_findLeast_27 : decode cX3_findLeast 27 = .ok (.aload_n 0, 1) := by decide +kernel
theorem dX3_findLeast_28 : decode cX3_findLeast 28 = .ok (.getfield 147, 3) := by decide +kernel
theorem dX3_findLeast_31 : decode cX3_findLeast 31 = .ok (.ifCond .eq 11, 3) := by decide +kernel
theorem dX3_findLeast_34 : decode cX3_findLeast 34 = .ok (.iload_n 2, 1) := by decide +kernel
theorem dX3_findLeast_35 : decode cX3_findLeast 35 = .ok (.invokestatic 150, 3) := by decide +kernel
theorem dX3_findLeast_38 : decode cX3_findLeast 38 = .ok (.iload_n 1, 1) := by decide +kernel
theorem dX3_findLeast_39 : decode cX3_findLeast 39 = .ok (.if_icmp .gt 64, 3) := by decide +kernel
theorem dX3_findLeast_42 : decode cX3_findLeast 42 = .ok (.aload_n 0, 1) := by decide +kernel
theorem dX3_findLeast_43 : decode cX3_findLeast 43 = .ok (.aload_n 0, 1) := by decide +kernel
theorem dX3_findLeast_44 : decode cX3_findLeast 44 = .ok (.getfield 147, 3) := by decide +kernel
theorem dX3_findLeast_47 : decode cX3_findLeast 47 = .ok (.ifCond .le 15, 3) := by decide +kernel
theorem dX3_findLeast_50 : decode cX3_findLeast 50 = .ok (.iload_n 2, 1) := by decide +kernel
theorem dX3_findLeast_51 : decode cX3_findLeast 51 = .ok (.invokestatic 150, 3) := by decide +kernel
theorem dX3_findLeast_54 : decode cX3_findLeast 54 = .ok (.iload_n 1, 1) := by decide +kernel
theorem dX3_findLeast_55 : decode cX3_findLeast 55 = .ok (.if_icmp .ge 7, 3) := by decide +kernel
theorem dX3_findLeast_58 : decode cX3_findLeast 58 = .ok (.iconst 0, 1) := by decide +kernel
theorem dX3_findLeast_59 : decode cX3_findLeast 59 = .ok (.goto 7, 3) := by decide +kernel
theorem dX3_findLeast_62 : decode cX3_findLeast 62 = .ok (.aload_n 0, 1) := by decide +kernel
theorem dX3_findLeast_63 : decode cX3_findLeast 63 = .ok (.getfield 147, 3) := by decide +kernel
theorem dX3_findLeast_66 : decode cX3_findLeast 66 = .ok (.putfield 147, 3) := by decide +kernel
theorem dX3_findLeast_69 : decode cX3_findLeast 69 = .ok (.iload_n 2, 1) := by decide +kernel
theorem dX3_findLeast_70 : decode cX3_findLeast 70 = .ok (.invokestatic 150, 3) := by decide +kernel
theorem dX3_findLeast_73 : decode cX3_findLeast 73 = .ok (.istore_n 1, 1) := by decide +kernel
theorem dX3_findLeast_74 : decode cX3_findLeast 74 = .ok (.aload_n 0, 1) := by decide +kernel
theorem dX3_findLeast_75 : decode cX3_findLeast 75 = .ok (.getfield 147, 3) := by decide +kernel
theorem dX3_findLeast_78 : decode cX3_findLeast 78 = .ok (.bipush 10, 2) := by decide +kernel
theorem dX3_findLeast_80 : decode cX3_findLeast 80 = .ok (.if_icmp .ge 23, 3) := by decide +kernel
theorem dX3_findLeast_83 : decode cX3_findLeast 83 = .ok (.aload_n 0, 1) := by decide +kernel
theorem dX3_findLeast_84 : decode cX3_findLeast 84 = .ok (.getfield 84, 3) := by decide +kernel
theorem dX3_findLeast_87 : decode cX3_findLeast 87 = .ok (.aload_n 0, 1) := by decide +kernel
theorem dX3_findLeast_88 : decode cX3_findLeast 88 = .ok (.getfield 147, 3) := by decide +kernel
theorem dX3_findLeast_91 : decode cX3_findLeast 91 = .ok (.iload_n 2, 1) := by decide +kernel
theorem dX3_findLeast_92 : decode cX3_findLeast 92 = .ok (.iastore, 1) := by decide +kernel
theorem dX3_findLeast_93 : decode cX3_findLeast 93 = .ok (.aload_n 0, 1) := by decide +kernel
theorem dX3_findLeast_94 : decode cX3_findLeast 94 = .ok (.dup, 1) := by decide +kernel
theorem dX3_findLeast_95 : decode cX3_findLeast 95 = .ok (.getfield 147, 3) := by decide +kernel
theorem dX3_findLeast_98 : decode cX3_findLeast 98 = .ok (.iconst 1, 1) := by decide +kernel
theorem dX3_findLeast_99 : decode cX3_findLeast 99 = .ok (.iadd, 1) := by decide +kernel
theorem dX3_findLeast_100 : decode cX3_findLeast 100 = .ok (.putfield 147, 3) := by decide +kernel
theorem dX3_findLeast_103 : decode cX3_findLeast 103 = .ok (.iinc 2 1, 3) := by decide +kernel
theorem dX3_findLeast_106 : decode cX3_findLeast 106 = .ok (.goto (-97), 3) := by decide +kernel
theorem dX3_findLeast_109 : decode cX3_findLeast 109 = .ok (.return_, 1) := by decide +kernel
set_option maxRecDepth 20000 in
theorem ggX3_least_X3_findLeast : GoodIn wsX3_least wsX3_findLeast := goodIn_r _ [6, 1, 7, 8, 9, 10, 11, 5, 12, 13, 14, 15, 16, 17, 18, 19, 20, 21, 22, 23, 24, 25, 26, 27, 28, 29, 30, 31, 32, 33, 34, 35, 36, 37, 38, 39, 40, 41, 42, 43, 44, 45, 46, 47, 48, 49, 50, 51, 52] (by decide +kernel) (by decide +kernel)
set_option maxRecDepth 20000 in
theorem gX3_least_X3_findLeast : GoodIn wsX3_least (wsV RX3 154 RX3 yX3_findLeast wsX3_findLeast) := goodIn_app (goodIn_of _ (by decide +kernel)) ggX3_least_X3_findLeast
theorem dX3_least_0 : decode cX3_least 0 = .ok (.aload_n 0, 1) := by decide +kernel
theorem dX3_least_1 : decode cX3_least 1 = .ok (.invokevirtual 154, 3) := by decide +kernel
theorem dX3_least_4 : decode cX3_least 4 = .ok (.aload_n 0, 1) := by decide +kernel
theorem dX3_least_5 : decode cX3_least 5 = .ok (.getfield 147, 3) := by decide +kernel
theorem dX3_least_8 : decode cX3_least 8 = .ok (.ireturn, 1) := by decide +kernel
set_option maxRecDepth 20000 in
theorem ggX3_leastAt_X3_findLeast : GoodIn wsX3_leastAt wsX3_findLeast := goodIn_r _ [7, 1, 8, 2, 9, 10, 11, 6, 12, 13, 14, 15, 16, 17, 18, 19, 23, 24, 25, 26, 27, 28, 29, 30, 31, 32, 33, 34, 35, 36, 37, 38, 39, 40, 41, 42, 43, 44, 45, 46, 47, 48, 49, 50, 51, 52, 53, 54, 55] (by decide +kernel) (by decide +kernel)
set_option maxRecDepth 20000 in
theorem gX3_leastAt_X3_findLeast : GoodIn wsX3_leastAt (wsV RX3 154 RX3 yX3_findLeast wsX3_findLeast) := goodIn_app (goodIn_of _ (by decide +kernel)) ggX3_leastAt_X3_findLeast
set_option maxRecDepth 20000 in
theorem ggX3_leastAt_X3_in : GoodIn wsX3_leastAt wsX3_in := goodIn_r _ [22] (by decide +kernel) (by decide +kernel)
set_option maxRecDepth 20000 in
theorem gX3_leastAt_X3_in : GoodIn wsX3_leastAt (va_wsS RX3 96 yX3_in wsX3_in) := goodIn_app (goodIn_of _ (by decide +kernel)) ggX3_leastAt_X3_in
theorem dX3_leastAt_0 : decode cX3_leastAt 0 = .ok (.aload_n 0, 1) := by decide +kernel
theorem dX3_leastAt_1 : decode cX3_leastAt 1 = .ok (.invokevirtual 154, 3) := by decide +kernel
theorem dX3_leastAt_4 : decode cX3_leastAt 4 = .ok (.iload_n 1, 1) := by decide +kernel
theorem dX3_leastAt_5 : decode cX3_leastAt 5 = .ok (.iconst 0, 1) := by decide +kernel
theorem dX3_leastAt_6 : decode cX3_leastAt 6 = .ok (.aload_n 0, 1) := by decide +kernel
theorem dX3_leastAt_7 : decode cX3_leastAt 7 = .ok (.getfield 147, 3) := by decide +kernel
theorem dX3_leastAt_10 : decode cX3_leastAt 10 = .ok (.iconst 1, 1) := by decide +kernel
theorem dX3_leastAt_11 : decode cX3_leastAt 11 = .ok (.isub, 1) := by decide +kernel
theorem dX3_leastAt_12 : decode cX3_leastAt 12 = .ok (.invokestatic 96, 3) := by decide +kernel
theorem dX3_leastAt_15 : decode cX3_leastAt 15 = .ok (.ifCond .eq 12, 3) := by decide +kernel
theorem dX3_leastAt_18 : decode cX3_leastAt 18 = .ok (.aload_n 0, 1) := by decide +kernel
theorem dX3_leastAt_19 : decode cX3_leastAt 19 = .ok (.getfield 84, 3) := by decide +kernel
theorem dX3_leastAt_22 : decode cX3_leastAt 22 = .ok (.iload_n 1, 1) := by decide +kernel
theorem dX3_leastAt_23 : decode cX3_leastAt 23 = .ok (.iaload, 1) := by decide +kernel
theorem dX3_leastAt_24 : decode cX3_leastAt 24 = .ok (.goto 4, 3) := by decide +kernel
theorem dX3_leastAt_27 : decode cX3_leastAt 27 = .ok (.iconst (-1), 1) := by decide +kernel
theorem dX3_leastAt_28 : decode cX3_leastAt 28 = .ok (.ireturn, 1) := by decide +kernel
theorem dX3_with_0 : decode cX3_with 0 = .ok (.iconst 0, 1) := by decide +kernel
theorem dX3_with_1 : decode cX3_with 1 = .ok (.istore_n 3, 1) := by decide +kernel
theorem dX3_with_2 : decode cX3_with 2 = .ok (.iconst 0, 1) := by decide +kernel
theorem dX3_with_3 : decode cX3_with 3 = .ok (.istore 4, 2) := by decide +kernel
theorem dX3_with_5 : decode cX3_with 5 = .ok (.iload 4, 2) := by decide +kernel
theorem dX3_with_7 : decode cX3_with 7 = .ok (.aload_n 0, 1) := by decide +kernel
theorem dX3_with_8 : decode cX3_with 8 = .ok (.getfield 147, 3) := by decide +kernel
theorem dX3_with_11 : decode cX3_with 11 = .ok (.if_icmp .ge 45, 3) := by decide +kernel
theorem dX3_with_14 : decode cX3_with 14 = .ok (.iload_n 3, 1) := by decide +kernel
theorem dX3_with_15 : decode cX3_with 15 = .ok (.iload_n 1, 1) := by decide +kernel
theorem dX3_with_16 : decode cX3_with 16 = .ok (.iload 4, 2) := by decide +kernel
theorem dX3_with_18 : decode cX3_with 18 = .ok (.ishr, 1) := by decide +kernel
theorem dX3_with_19 : decode cX3_with 19 = .ok (.iconst 1, 1) := by decide +kernel
theorem dX3_with_20 : decode cX3_with 20 = .ok (.iand, 1) := by decide +kernel
theorem dX3_with_21 : decode cX3_with 21 = .ok (.iconst 1, 1) := by decide +kernel
theorem dX3_with_22 : decode cX3_with 22 = .ok (.if_icmp .ne 25, 3) := by decide +kernel
theorem dX3_with_25 : decode cX3_with 25 = .ok (.aload_n 0, 1) := by decide +kernel
theorem dX3_with_26 : decode cX3_with 26 = .ok (.getfield 84, 3) := by decide +kernel
theorem dX3_with_29 : decode cX3_with 29 = .ok (.iload 4, 2) := by decide +kernel
theorem dX3_with_31 : decode cX3_with 31 = .ok (.iaload, 1) := by decide +kernel
theorem dX3_with_32 : decode cX3_with 32 = .ok (.iload_n 2, 1) := by decide +kernel
theorem dX3_with_33 : decode cX3_with 33 = .ok (.ishr, 1) := by decide +kernel
theorem dX3_with_34 : decode cX3_with 34 = .ok (.iconst 1, 1) := by decide +kernel
theorem dX3_with_35 : decode cX3_with 35 = .ok (.iand, 1) := by decide +kernel
theorem dX3_with_36 : decode cX3_with 36 = .ok (.iconst 1, 1) := by decide +kernel
theorem dX3_with_37 : decode cX3_with 37 = .ok (.if_icmp .ne 10, 3) := by decide +kernel
theorem dX3_with_40 : decode cX3_with 40 = .ok (.iconst 1, 1) := by decide +kernel
theorem dX3_with_41 : decode cX3_with 41 = .ok (.iload 4, 2) := by decide +kernel
theorem dX3_with_43 : decode cX3_with 43 = .ok (.ishl, 1) := by decide +kernel
theorem dX3_with_44 : decode cX3_with 44 = .ok (.goto 4, 3) := by decide +kernel
theorem dX3_with_47 : decode cX3_with 47 = .ok (.iconst 0, 1) := by decide +kernel
theorem dX3_with_48 : decode cX3_with 48 = .ok (.ior, 1) := by decide +kernel
theorem dX3_with_49 : decode cX3_with 49 = .ok (.istore_n 3, 1) := by decide +kernel
theorem dX3_with_50 : decode cX3_with 50 = .ok (.iinc 4 1, 3) := by decide +kernel
theorem dX3_with_53 : decode cX3_with 53 = .ok (.goto (-48), 3) := by decide +kernel
theorem dX3_with_56 : decode cX3_with 56 = .ok (.iload_n 3, 1) := by decide +kernel
theorem dX3_with_57 : decode cX3_with 57 = .ok (.ireturn, 1) := by decide +kernel
set_option maxRecDepth 20000 in
theorem ggX3_plans_X3_many : GoodIn wsX3_plans wsX3_many := goodIn_r _ [9] (by decide +kernel) (by decide +kernel)
set_option maxRecDepth 20000 in
theorem gX3_plans_X3_many : GoodIn wsX3_plans (va_wsS RX3 150 yX3_many wsX3_many) := goodIn_app (goodIn_of _ (by decide +kernel)) ggX3_plans_X3_many
set_option maxRecDepth 20000 in
theorem ggX3_plans_X3_with : GoodIn wsX3_plans wsX3_with := goodIn_r _ [13, 1, 14, 15, 16, 17, 18, 19, 20, 21, 22, 23, 24, 25, 26, 27, 28, 29, 30, 31, 32, 33, 34, 35, 36, 37, 38, 39, 40, 41, 42, 43, 44, 45, 46, 47] (by decide +kernel) (by decide +kernel)
set_option maxRecDepth 20000 in
theorem gX3_plans_X3_with : GoodIn wsX3_plans (wsV RX3 157 RX3 yX3_with wsX3_with) := goodIn_app (goodIn_of _ (by decide +kernel)) ggX3_plans_X3_with
theorem dX3_plans_0 : decode cX3_plans 0 = .ok (.iconst 0, 1) := by decide +kernel
theorem dX3_plans_1 : decode cX3_plans 1 = .ok (.istore_n 1, 1) := by decide +kernel
theorem dX3_plans_2 : decode cX3_plans 2 = .ok (.iload_n 1, 1) := by decide +kernel
theorem dX3_plans_3 : decode cX3_plans 3 = .ok (.iconst 1, 1) := by decide +kernel
theorem dX3_plans_4 : decode cX3_plans 4 = .ok (.aload_n 0, 1) := by decide +kernel
theorem dX3_plans_5 : decode cX3_plans 5 = .ok (.getfield 147, 3) := by decide +kernel
theorem dX3_plans_8 : decode cX3_plans 8 = .ok (.ishl, 1) := by decide +kernel
theorem dX3_plans_9 : decode cX3_plans 9 = .ok (.if_icmp .ge 130, 3) := by decide +kernel
theorem dX3_plans_12 : decode cX3_plans 12 = .ok (.aload_n 0, 1) := by decide +kernel
theorem dX3_plans_13 : decode cX3_plans 13 = .ok (.getfield 87, 3) := by decide +kernel
theorem dX3_plans_16 : decode cX3_plans 16 = .ok (.iload_n 1, 1) := by decide +kernel
theorem dX3_plans_17 : decode cX3_plans 17 = .ok (.iconst 0, 1) := by decide +kernel
theorem dX3_plans_18 : decode cX3_plans 18 = .ok (.iastore, 1) := by decide +kernel
theorem dX3_plans_19 : decode cX3_plans 19 = .ok (.aload_n 0, 1) := by decide +kernel
theorem dX3_plans_20 : decode cX3_plans 20 = .ok (.getfield 90, 3) := by decide +kernel
theorem dX3_plans_23 : decode cX3_plans 23 = .ok (.iload_n 1, 1) := by decide +kernel
theorem dX3_plans_24 : decode cX3_plans 24 = .ok (.iconst (-1), 1) := by decide +kernel
theorem dX3_plans_25 : decode cX3_plans 25 = .ok (.iastore, 1) := by decide +kernel
theorem dX3_plans_26 : decode cX3_plans 26 = .ok (.iconst 0, 1) := by decide +kernel
theorem dX3_plans_27 : decode cX3_plans 27 = .ok (.istore_n 2, 1) := by decide +kernel
theorem dX3_plans_28 : decode cX3_plans 28 = .ok (.iload_n 2, 1) := by decide +kernel
theorem dX3_plans_29 : decode cX3_plans 29 = .ok (.aload_n 0, 1) := by decide +kernel
theorem dX3_plans_30 : decode cX3_plans 30 = .ok (.getfield 141, 3) := by decide +kernel
theorem dX3_plans_33 : decode cX3_plans 33 = .ok (.if_icmp .ge 100, 3) := by decide +kernel
theorem dX3_plans_36 : decode cX3_plans 36 = .ok (.iload_n 1, 1) := by decide +kernel
theorem dX3_plans_37 : decode cX3_plans 37 = .ok (.invokestatic 150, 3) := by decide +kernel
theorem dX3_plans_40 : decode cX3_plans 40 = .ok (.iconst 1, 1) := by decide +kernel
theorem dX3_plans_41 : decode cX3_plans 41 = .ok (.if_icmp .le 92, 3) := by decide +kernel
theorem dX3_plans_44 : decode cX3_plans 44 = .ok (.aload_n 0, 1) := by decide +kernel
theorem dX3_plans_45 : decode cX3_plans 45 = .ok (.iload_n 1, 1) := by decide +kernel
theorem dX3_plans_46 : decode cX3_plans 46 = .ok (.iload_n 2, 1) := by decide +kernel
theorem dX3_plans_47 : decode cX3_plans 47 = .ok (.invokevirtual 157, 3) := by decide +kernel
theorem dX3_plans_50 : decode cX3_plans 50 = .ok (.istore_n 3, 1) := by decide +kernel
theorem dX3_plans_51 : decode cX3_plans 51 = .ok (.iload_n 3, 1) := by decide +kernel
theorem dX3_plans_52 : decode cX3_plans 52 = .ok (.ifCond .eq 75, 3) := by decide +kernel
theorem dX3_plans_55 : decode cX3_plans 55 = .ok (.iload_n 3, 1) := by decide +kernel
theorem dX3_plans_56 : decode cX3_plans 56 = .ok (.iload_n 1, 1) := by decide +kernel
theorem dX3_plans_57 : decode cX3_plans 57 = .ok (.if_icmp .eq 70, 3) := by decide +kernel
theorem dX3_plans_60 : decode cX3_plans 60 = .ok (.aload_n 0, 1) := by decide +kernel
theorem dX3_plans_61 : decode cX3_plans 61 = .ok (.getfield 81, 3) := by decide +kernel
theorem dX3_plans_64 : decode cX3_plans 64 = .ok (.iload_n 2, 1) := by decide +kernel
theorem dX3_plans_65 : decode cX3_plans 65 = .ok (.iaload, 1) := by decide +kernel
theorem dX3_plans_66 : decode cX3_plans 66 = .ok (.iload_n 1, 1) := by decide +kernel
theorem dX3_plans_67 : decode cX3_plans 67 = .ok (.invokestatic 150, 3) := by decide +kernel
theorem dX3_plans_70 : decode cX3_plans 70 = .ok (.imul, 1) := by decide +kernel
theorem dX3_plans_71 : decode cX3_plans 71 = .ok (.aload_n 0, 1) := by decide +kernel
theorem dX3_plans_72 : decode cX3_plans 72 = .ok (.getfield 87, 3) := by decide +kernel
theorem dX3_plans_75 : decode cX3_plans 75 = .ok (.iload_n 3, 1) := by decide +kernel
theorem dX3_plans_76 : decode cX3_plans 76 = .ok (.iaload, 1) := by decide +kernel
theorem dX3_plans_77 : decode cX3_plans 77 = .ok (.iadd, 1) := by decide +kernel
theorem dX3_plans_78 : decode cX3_plans 78 = .ok (.aload_n 0, 1) := by decide +kernel
theorem dX3_plans_79 : decode cX3_plans 79 = .ok (.getfield 87, 3) := by decide +kernel
theorem dX3_plans_82 : decode cX3_plans 82 = .ok (.iload_n 1, 1) := by decide +kernel
theorem dX3_plans_83 : decode cX3_plans 83 = .ok (.iload_n 3, 1) := by decide +kernel
theorem dX3_plans_84 : decode cX3_plans 84 = .ok (.iconst (-1), 1) := by decide +kernel
theorem dX3_plans_85 : decode cX3_plans 85 = .ok (.ixor, 1) := by decide +kernel
theorem dX3_plans_86 : decode cX3_plans 86 = .ok (.iand, 1) := by decide +kernel
theorem dX3_plans_87 : decode cX3_plans 87 = .ok (.iaload, 1) := by decide +kernel
theorem dX3_plans_88 : decode cX3_plans 88 = .ok (.iadd, 1) := by decide +kernel
theorem dX3_plans_89 : decode cX3_plans 89 = .ok (.istore 4, 2) := by decide +kernel
theorem dX3_plans_91 : decode cX3_plans 91 = .ok (.aload_n 0, 1) := by decide +kernel
theorem dX3_plans_92 : decode cX3_plans 92 = .ok (.getfield 90, 3) := by decide +kernel
theorem dX3_plans_95 : decode cX3_plans 95 = .ok (.iload_n 1, 1) := by decide +kernel
theorem dX3_plans_96 : decode cX3_plans 96 = .ok (.iaload, 1) := by decide +kernel
theorem dX3_plans_97 : decode cX3_plans 97 = .ok (.iconst (-1), 1) := by decide +kernel
theorem dX3_plans_98 : decode cX3_plans 98 = .ok (.if_icmp .eq 14, 3) := by decide +kernel
theorem dX3_plans_101 : decode cX3_plans 101 = .ok (.iload 4, 2) := by decide +kernel
theorem dX3_plans_103 : decode cX3_plans 103 = .ok (.aload_n 0, 1) := by decide +kernel
theorem dX3_plans_104 : decode cX3_plans 104 = .ok (.getfield 87, 3) := by decide +kernel
theorem dX3_plans_107 : decode cX3_plans 107 = .ok (.iload_n 1, 1) := by decide +kernel
theorem dX3_plans_108 : decode cX3_plans 108 = .ok (.iaload, 1) := by decide +kernel
theorem dX3_plans_109 : decode cX3_plans 109 = .ok (.if_icmp .ge 18, 3) := by decide +kernel
theorem dX3_plans_112 : decode cX3_plans 112 = .ok (.aload_n 0, 1) := by decide +kernel
theorem dX3_plans_113 : decode cX3_plans 113 = .ok (.getfield 87, 3) := by decide +kernel
theorem dX3_plans_116 : decode cX3_plans 116 = .ok (.iload_n 1, 1) := by decide +kernel
theorem dX3_plans_117 : decode cX3_plans 117 = .ok (.iload 4, 2) := by decide +kernel
theorem dX3_plans_119 : decode cX3_plans 119 = .ok (.iastore, 1) := by decide +kernel
theorem dX3_plans_120 : decode cX3_plans 120 = .ok (.aload_n 0, 1) := by decide +kernel
theorem dX3_plans_121 : decode cX3_plans 121 = .ok (.getfield 90, 3) := by decide +kernel
theorem dX3_plans_124 : decode cX3_plans 124 = .ok (.iload_n 1, 1) := by decide +kernel
theorem dX3_plans_125 : decode cX3_plans 125 = .ok (.iload_n 2, 1) := by decide +kernel
theorem dX3_plans_126 : decode cX3_plans 126 = .ok (.iastore, 1) := by decide +kernel
theorem dX3_plans_127 : decode cX3_plans 127 = .ok (.iinc 2 1, 3) := by decide +kernel
theorem dX3_plans_130 : decode cX3_plans 130 = .ok (.goto (-102), 3) := by decide +kernel
theorem dX3_plans_133 : decode cX3_plans 133 = .ok (.iinc 1 1, 3) := by decide +kernel
theorem dX3_plans_136 : decode cX3_plans 136 = .ok (.goto (-134), 3) := by decide +kernel
theorem dX3_plans_139 : decode cX3_plans 139 = .ok (.return_, 1) := by decide +kernel
set_option maxRecDepth 20000 in
theorem ggX3_plan_X3_findLeast : GoodIn wsX3_plan wsX3_findLeast := goodIn_r _ [7, 1, 8, 9, 10, 11, 12, 6, 13, 14, 15, 16, 17, 18, 19, 20, 31, 32, 33, 34, 35, 36, 37, 38, 39, 40, 41, 42, 43, 44, 45, 46, 47, 48, 49, 50, 51, 52, 53, 54, 55, 56, 57, 58, 59, 60, 61, 62, 63] (by decide +kernel) (by decide +kernel)
set_option maxRecDepth 20000 in
theorem gX3_plan_X3_findLeast : GoodIn wsX3_plan (wsV RX3 154 RX3 yX3_findLeast wsX3_findLeast) := goodIn_app (goodIn_of _ (by decide +kernel)) ggX3_plan_X3_findLeast
set_option maxRecDepth 20000 in
theorem ggX3_plan_X3_plans : GoodIn wsX3_plan wsX3_plans := goodIn_r _ [24, 1, 2, 25, 8, 26, 18, 19, 6, 20, 27, 28, 29, 30, 9, 31, 32, 33, 34, 35, 36, 37, 38, 39, 40, 41, 42, 43, 44, 45, 46, 47, 48, 49, 50, 51, 52, 53, 54, 55, 56, 57, 58, 59, 60, 61, 62, 63] (by decide +kernel) (by decide +kernel)
set_option maxRecDepth 20000 in
theorem gX3_plan_X3_plans : GoodIn wsX3_plan (wsV RX3 160 RX3 yX3_plans wsX3_plans) := goodIn_app (goodIn_of _ (by decide +kernel)) ggX3_plan_X3_plans
theorem dX3_plan_0 : decode cX3_plan 0 = .ok (.aload_n 0, 1) := by decide +kernel
theorem dX3_plan_1 : decode cX3_plan 1 = .ok (.invokevirtual 154, 3) := by decide +kernel
theorem dX3_plan_4 : decode cX3_plan 4 = .ok (.aload_n 0, 1) := by decide +kernel
theorem dX3_plan_5 : decode cX3_plan 5 = .ok (.getfield 147, 3) := by decide +kernel
theorem dX3_plan_8 : decode cX3_plan 8 = .ok (.ifCond .ne 5, 3) := by decide +kernel
theorem dX3_plan_11 : decode cX3_plan 11 = .ok (.iconst (-1), 1) := by decide +kernel
theorem dX3_plan_12 : decode cX3_plan 12 = .ok (.ireturn, 1) := by decide +kernel
theorem dX3_plan_13 : decode cX3_plan 13 = .ok (.aload_n 0, 1) := by decide +kernel
theorem dX3_plan_14 : decode cX3_plan 14 = .ok (.invokevirtual 160, 3) := by decide +kernel
theorem dX3_plan_17 : decode cX3_plan 17 = .ok (.aload_n 0, 1) := by decide +kernel
theorem dX3_plan_18 : decode cX3_plan 18 = .ok (.getfield 87, 3) := by decide +kernel
theorem dX3_plan_21 : decode cX3_plan 21 = .ok (.iconst 1, 1) := by decide +kernel
theorem dX3_plan_22 : decode cX3_plan 22 = .ok (.aload_n 0, 1) := by decide +kernel
theorem dX3_plan_23 : decode cX3_plan 23 = .ok (.getfield 147, 3) := by decide +kernel
theorem dX3_plan_26 : decode cX3_plan 26 = .ok (.ishl, 1) := by decide +kernel
theorem dX3_plan_27 : decode cX3_plan 27 = .ok (.iconst 1, 1) := by decide +kernel
theorem dX3_plan_28 : decode cX3_plan 28 = .ok (.isub, 1) := by decide +kernel
theorem dX3_plan_29 : decode cX3_plan 29 = .ok (.iaload, 1) := by decide +kernel
theorem dX3_plan_30 : decode cX3_plan 30 = .ok (.ireturn, 1) := by decide +kernel
set_option maxRecDepth 20000 in
theorem ggX3_test_X3_findLeast : GoodIn wsX3_test wsX3_findLeast := goodIn_r _ [7, 1, 8, 9, 10, 11, 12, 6, 13, 14, 15, 16, 17, 18, 19, 20, 31, 32, 33, 34, 35, 36, 37, 38, 39, 40, 41, 42, 43, 44, 45, 46, 47, 48, 49, 50, 51, 52, 53, 54, 55, 56, 57, 58, 59, 60, 61, 62, 63] (by decide +kernel) (by decide +kernel)
set_option maxRecDepth 20000 in
theorem gX3_test_X3_findLeast : GoodIn wsX3_test (wsV RX3 154 RX3 yX3_findLeast wsX3_findLeast) := goodIn_app (goodIn_of _ (by decide +kernel)) ggX3_test_X3_findLeast
set_option maxRecDepth 20000 in
theorem ggX3_test_X3_plans : GoodIn wsX3_test wsX3_plans := goodIn_r _ [24, 1, 25, 2, 8, 26, 18, 19, 6, 20, 27, 28, 29, 30, 9, 31, 32, 33, 34, 35, 36, 37, 38, 39, 40, 41, 42, 43, 44, 45, 46, 47, 48, 49, 50, 51, 52, 53, 54, 55, 56, 57, 58, 59, 60, 61, 62, 63] (by decide +kernel) (by decide +kernel)
set_option maxRecDepth 20000 in
theorem gX3_test_X3_plans : GoodIn wsX3_test (wsV RX3 160 RX3 yX3_plans wsX3_plans) := goodIn_app (goodIn_of _ (by decide +kernel)) ggX3_test_X3_plans
theorem dX3_test_0 : decode cX3_test 0 = .ok (.aload_n 0, 1) := by decide +kernel
theorem dX3_test_1 : decode cX3_test 1 = .ok (.invokevirtual 154, 3) := by decide +kernel
theorem dX3_test_4 : decode cX3_test 4 = .ok (.aload_n 0, 1) := by decide +kernel
theorem dX3_test_5 : decode cX3_test 5 = .ok (.getfield 147, 3) := by decide +kernel
theorem dX3_test_8 : decode cX3_test 8 = .ok (.ifCond .ne 5, 3) := by decide +kernel
theorem dX3_test_11 : decode cX3_test 11 = .ok (.iconst (-1), 1) := by decide +kernel
theorem dX3_test_12 : decode cX3_test 12 = .ok (.ireturn, 1) := by decide +kernel
theorem dX3_test_13 : decode cX3_test 13 = .ok (.aload_n 0, 1) := by decide +kernel
theorem dX3_test_14 : decode cX3_test 14 = .ok (.invokevirtual 160, 3) := by decide +kernel
theorem dX3_test_17 : decode cX3_test 17 = .ok (.aload_n 0, 1) := by decide +kernel
theorem dX3_test_18 : decode cX3_test 18 = .ok (.getfield 90, 3) := by decide +kernel
theorem dX3_test_21 : decode cX3_test 21 = .ok (.iconst 1, 1) := by decide +kernel
theorem dX3_test_22 : decode cX3_test 22 = .ok (.aload_n 0, 1) := by decide +kernel
theorem dX3_test_23 : decode cX3_test 23 = .ok (.getfield 147, 3) := by decide +kernel
theorem dX3_test_26 : decode cX3_test 26 = .ok (.ishl, 1) := by decide +kernel
theorem dX3_test_27 : decode cX3_test 27 = .ok (.iconst 1, 1) := by decide +kernel
theorem dX3_test_28 : decode cX3_test 28 = .ok (.isub, 1) := by decide +kernel
theorem dX3_test_29 : decode cX3_test 29 = .ok (.iaload, 1) := by decide +kernel
theorem dX3_test_30 : decode cX3_test 30 = .ok (.ireturn, 1) := by decide +kernel
set_option maxRecDepth 20000 in
theorem ggX3_foretells_X3_isCheck : GoodIn wsX3_foretells wsX3_isCheck := goodIn_r _ [6, 7, 8, 9, 5, 10, 11, 12, 13, 14, 15, 16, 17, 18, 19, 20, 21, 22, 23, 24, 25, 26, 27, 28, 29, 30, 31, 32, 33, 34, 35, 36, 37, 38, 39, 40, 41, 42, 43] (by decide +kernel) (by decide +kernel)
set_option maxRecDepth 20000 in
theorem gX3_foretells_X3_isCheck : GoodIn wsX3_foretells (wsV RX3 100 RX3 yX3_isCheck wsX3_isCheck) := goodIn_app (goodIn_of _ (by decide +kernel)) ggX3_foretells_X3_isCheck
theorem dX3_foretells_0 : decode cX3_foretells 0 = .ok (.aload_n 0, 1) := by decide +kernel
theorem dX3_foretells_1 : decode cX3_foretells 1 = .ok (.iload_n 1, 1) := by decide +kernel
theorem dX3_foretells_2 : decode cX3_foretells 2 = .ok (.invokevirtual 100, 3) := by decide +kernel
theorem dX3_foretells_5 : decode cX3_foretells 5 = .ok (.ifCond .eq 25, 3) := by decide +kernel
theorem dX3_foretells_8 : decode cX3_foretells 8 = .ok (.aload_n 0, 1) := by decide +kernel
theorem dX3_foretells_9 : decode cX3_foretells 9 = .ok (.iload_n 2, 1) := by decide +kernel
theorem dX3_foretells_10 : decode cX3_foretells 10 = .ok (.invokevirtual 100, 3) := by decide +kernel
theorem dX3_foretells_13 : decode cX3_foretells 13 = .ok (.ifCond .eq 17, 3) := by decide +kernel
theorem dX3_foretells_16 : decode cX3_foretells 16 = .ok (.aload_n 0, 1) := by decide +kernel
theorem dX3_foretells_17 : decode cX3_foretells 17 = .ok (.getfield 56, 3) := by decide +kernel
theorem dX3_foretells_20 : decode cX3_foretells 20 = .ok (.bipush 16, 2) := by decide +kernel
theorem dX3_foretells_22 : decode cX3_foretells 22 = .ok (.iload_n 1, 1) := by decide +kernel
theorem dX3_foretells_23 : decode cX3_foretells 23 = .ok (.imul, 1) := by decide +kernel
theorem dX3_foretells_24 : decode cX3_foretells 24 = .ok (.iload_n 2, 1) := by decide +kernel
theorem dX3_foretells_25 : decode cX3_foretells 25 = .ok (.iadd, 1) := by decide +kernel
theorem dX3_foretells_26 : decode cX3_foretells 26 = .ok (.iaload, 1) := by decide +kernel
theorem dX3_foretells_27 : decode cX3_foretells 27 = .ok (.goto 5, 3) := by decide +kernel
theorem dX3_foretells_30 : decode cX3_foretells 30 = .ok (.bipush (-2), 2) := by decide +kernel
theorem dX3_foretells_32 : decode cX3_foretells 32 = .ok (.ireturn, 1) := by decide +kernel
set_option maxRecDepth 20000 in
theorem ggX3_sets_X3_isCheck : GoodIn wsX3_sets wsX3_isCheck := goodIn_r _ [6, 7, 8, 9, 5, 10, 11, 12, 13, 14, 15, 16, 17, 18, 19, 20, 21, 22, 23, 24, 25, 26, 27, 28, 29, 30, 31, 32, 33, 34, 35, 36, 37, 38, 39, 40, 41, 42, 43] (by decide +kernel) (by decide +kernel)
set_option maxRecDepth 20000 in
theorem gX3_sets_X3_isCheck : GoodIn wsX3_sets (wsV RX3 100 RX3 yX3_isCheck wsX3_isCheck) := goodIn_app (goodIn_of _ (by decide +kernel)) ggX3_sets_X3_isCheck
theorem dX3_sets_0 : decode cX3_sets 0 = .ok (.aload_n 0, 1) := by decide +kernel
theorem dX3_sets_1 : decode cX3_sets 1 = .ok (.iload_n 1, 1) := by decide +kernel
theorem dX3_sets_2 : decode cX3_sets 2 = .ok (.invokevirtual 100, 3) := by decide +kernel
theorem dX3_sets_5 : decode cX3_sets 5 = .ok (.ifCond .eq 12, 3) := by decide +kernel
theorem dX3_sets_8 : decode cX3_sets 8 = .ok (.aload_n 0, 1) := by decide +kernel
theorem dX3_sets_9 : decode cX3_sets 9 = .ok (.getfield 53, 3) := by decide +kernel
theorem dX3_sets_12 : decode cX3_sets 12 = .ok (.iload_n 1, 1) := by decide +kernel
theorem dX3_sets_13 : decode cX3_sets 13 = .ok (.iaload, 1) := by decide +kernel
theorem dX3_sets_14 : decode cX3_sets 14 = .ok (.goto 5, 3) := by decide +kernel
theorem dX3_sets_17 : decode cX3_sets 17 = .ok (.bipush (-2), 2) := by decide +kernel
theorem dX3_sets_19 : decode cX3_sets 19 = .ok (.ireturn, 1) := by decide +kernel
theorem dX3_manyOf_0 : decode cX3_manyOf 0 = .ok (.iconst 0, 1) := by decide +kernel
theorem dX3_manyOf_1 : decode cX3_manyOf 1 = .ok (.istore_n 2, 1) := by decide +kernel
theorem dX3_manyOf_2 : decode cX3_manyOf 2 = .ok (.iconst 0, 1) := by decide +kernel
theorem dX3_manyOf_3 : decode cX3_manyOf 3 = .ok (.istore_n 3, 1) := by decide +kernel
theorem dX3_manyOf_4 : decode cX3_manyOf 4 = .ok (.iload_n 3, 1) := by decide +kernel
theorem dX3_manyOf_5 : decode cX3_manyOf 5 = .ok (.aload_n 0, 1) := by decide +kernel
theorem dX3_manyOf_6 : decode cX3_manyOf 6 = .ok (.getfield 93, 3) := by decide +kernel
theorem dX3_manyOf_9 : decode cX3_manyOf 9 = .ok (.if_icmp .ge 27, 3) := by decide +kernel
theorem dX3_manyOf_12 : decode cX3_manyOf 12 = .ok (.iload_n 2, 1) := by decide +kernel
theorem dX3_manyOf_13 : decode cX3_manyOf 13 = .ok (.aload_n 0, 1) := by decide +kernel
theorem dX3_manyOf_14 : decode cX3_manyOf 14 = .ok (.getfield 32, 3) := by decide +kernel
theorem dX3_manyOf_17 : decode cX3_manyOf 17 = .ok (.iload_n 3, 1) := by decide +kernel
theorem dX3_manyOf_18 : decode cX3_manyOf 18 = .ok (.iaload, 1) := by decide +kernel
theorem dX3_manyOf_19 : decode cX3_manyOf 19 = .ok (.iload_n 1, 1) := by decide +kernel
theorem dX3_manyOf_20 : decode cX3_manyOf 20 = .ok (.if_icmp .ne 7, 3) := by decide +kernel
theorem dX3_manyOf_23 : decode cX3_manyOf 23 = .ok (.iconst 1, 1) := by decide +kernel
theorem dX3_manyOf_24 : decode cX3_manyOf 24 = .ok (.goto 4, 3) := by decide +kernel
theorem dX3_manyOf_27 : decode cX3_manyOf 27 = .ok (.iconst 0, 1) := by decide +kernel
theorem dX3_manyOf_28 : decode cX3_manyOf 28 = .ok (.iadd, 1) := by decide +kernel
theorem dX3_manyOf_29 : decode cX3_manyOf 29 = .ok (.istore_n 2, 1) := by decide +kernel
theorem dX3_manyOf_30 : decode cX3_manyOf 30 = .ok (.iinc 3 1, 3) := by decide +kernel
theorem dX3_manyOf_33 : decode cX3_manyOf 33 = .ok (.goto (-29), 3) := by decide +kernel
theorem dX3_manyOf_36 : decode cX3_manyOf 36 = .ok (.iload_n 2, 1) := by decide +kernel
theorem dX3_manyOf_37 : decode cX3_manyOf 37 = .ok (.ireturn, 1) := by decide +kernel
set_option maxRecDepth 20000 in
theorem ggX3_count_X3_manyOf : GoodIn wsX3_count wsX3_manyOf := goodIn_r _ [9, 1, 10, 16, 17, 18, 19, 20, 21, 22, 23, 24, 25, 26, 27, 28, 29, 30, 31, 32, 33, 34, 35, 36, 37, 38, 39, 40, 41, 42, 43, 44, 45, 46, 47, 48] (by decide +kernel) (by decide +kernel)
set_option maxRecDepth 20000 in
theorem gX3_count_X3_manyOf : GoodIn wsX3_count (wsV RX3 163 RX3 yX3_manyOf wsX3_manyOf) := goodIn_app (goodIn_of _ (by decide +kernel)) ggX3_count_X3_manyOf
set_option maxRecDepth 20000 in
theorem ggX3_count_X3_manyFrozen : GoodIn wsX3_count wsX3_manyFrozen := goodIn_r _ [14, 1, 15, 16, 17, 18, 19, 20, 21, 22, 23, 24, 25, 26, 27, 28, 29, 30, 31, 32, 33, 34, 35, 36, 37, 38, 39, 40, 41, 42, 43, 44, 45, 46, 47, 48] (by decide +kernel) (by decide +kernel)
set_option maxRecDepth 20000 in
theorem gX3_count_X3_manyFrozen : GoodIn wsX3_count (wsV RX3 114 RX3 yX3_manyFrozen wsX3_manyFrozen) := goodIn_app (goodIn_of _ (by decide +kernel)) ggX3_count_X3_manyFrozen
theorem dX3_count_0 : decode cX3_count 0 = .ok (.iload_n 1, 1) := by decide +kernel
theorem dX3_count_1 : decode cX3_count 1 = .ok (.tableswitch 98 0 7 #[47, 52, 57, 63, 69, 75, 80, 85], 47) := by decide +kernel
theorem dX3_count_48 : decode cX3_count 48 = .ok (.aload_n 0, 1) := by decide +kernel
theorem dX3_count_49 : decode cX3_count 49 = .ok (.getfield 93, 3) := by decide +kernel
theorem dX3_count_52 : decode cX3_count 52 = .ok (.ireturn, 1) := by decide +kernel
theorem dX3_count_53 : decode cX3_count 53 = .ok (.aload_n 0, 1) := by decide +kernel
theorem dX3_count_54 : decode cX3_count 54 = .ok (.getfield 108, 3) := by decide +kernel
theorem dX3_count_57 : decode cX3_count 57 = .ok (.ireturn, 1) := by decide +kernel
theorem dX3_count_58 : decode cX3_count 58 = .ok (.aload_n 0, 1) := by decide +kernel
theorem dX3_count_59 : decode cX3_count 59 = .ok (.iconst 1, 1) := by decide +kernel
theorem dX3_count_60 : decode cX3_count 60 = .ok (.invokevirtual 163, 3) := by decide +kernel
theorem dX3_count_63 : decode cX3_count 63 = .ok (.ireturn, 1) := by decide +kernel
theorem dX3_count_64 : decode cX3_count 64 = .ok (.aload_n 0, 1) := by decide +kernel
theorem dX3_count_65 : decode cX3_count 65 = .ok (.iconst 2, 1) := by decide +kernel
theorem dX3_count_66 : decode cX3_count 66 = .ok (.invokevirtual 163, 3) := by decide +kernel
theorem dX3_count_69 : decode cX3_count 69 = .ok (.ireturn, 1) := by decide +kernel
theorem dX3_count_70 : decode cX3_count 70 = .ok (.aload_n 0, 1) := by decide +kernel
theorem dX3_count_71 : decode cX3_count 71 = .ok (.iconst 3, 1) := by decide +kernel
theorem dX3_count_72 : decode cX3_count 72 = .ok (.invokevirtual 163, 3) := by decide +kernel
theorem dX3_count_75 : decode cX3_count 75 = .ok (.ireturn, 1) := by decide +kernel
theorem dX3_count_76 : decode cX3_count 76 = .ok (.aload_n 0, 1) := by decide +kernel
theorem dX3_count_77 : decode cX3_count 77 = .ok (.invokevirtual 114, 3) := by decide +kernel
theorem dX3_count_80 : decode cX3_count 80 = .ok (.ireturn, 1) := by decide +kernel
theorem dX3_count_81 : decode cX3_count 81 = .ok (.aload_n 0, 1) := by decide +kernel
theorem dX3_count_82 : decode cX3_count 82 = .ok (.getfield 141, 3) := by decide +kernel
theorem dX3_count_85 : decode cX3_count 85 = .ok (.ireturn, 1) := by decide +kernel
theorem dX3_count_86 : decode cX3_count 86 = .ok (.aload_n 0, 1) := by decide +kernel
theorem dX3_count_87 : decode cX3_count 87 = .ok (.getfield 104, 3) := by decide +kernel
theorem dX3_count_90 : decode cX3_count 90 = .ok (.ifCond .eq 7, 3) := by decide +kernel
theorem dX3_count_93 : decode cX3_count 93 = .ok (.iconst 1, 1) := by decide +kernel
theorem dX3_count_94 : decode cX3_count 94 = .ok (.goto 4, 3) := by decide +kernel
theorem dX3_count_97 : decode cX3_count 97 = .ok (.iconst 0, 1) := by decide +kernel
theorem dX3_count_98 : decode cX3_count 98 = .ok (.ireturn, 1) := by decide +kernel
theorem dX3_count_99 : decode cX3_count 99 = .ok (.bipush (-2), 2) := by decide +kernel
theorem dX3_count_101 : decode cX3_count 101 = .ok (.ireturn, 1) := by decide +kernel
set_option maxRecDepth 20000 in
theorem ggX3_digest_X3_count : GoodIn wsX3_digest wsX3_count := goodIn_r _ [13, 3, 14, 6, 15, 16, 17, 18, 12, 19, 20, 21, 22, 23, 24, 25, 57, 58, 59, 60, 61, 62, 63, 64, 65, 66, 67, 68, 69, 70, 71, 72, 73, 74, 75, 76, 77, 78, 79, 80, 81, 82, 83, 84, 85, 86, 87, 88, 89] (by decide +kernel) (by decide +kernel)
set_option maxRecDepth 20000 in
theorem gX3_digest_X3_count : GoodIn wsX3_digest (wsV RX3 170 RX3 yX3_count wsX3_count) := goodIn_app (goodIn_of _ (by decide +kernel)) ggX3_digest_X3_count
set_option maxRecDepth 20000 in
theorem ggX3_digest_X3_aboutOf : GoodIn wsX3_digest wsX3_aboutOf := goodIn_r _ [29, 20, 30, 31, 32, 25, 33, 34, 35, 36, 37, 12, 38, 39, 57, 58, 59, 60, 61, 62, 63, 64, 65, 66, 67, 68, 69, 70, 71, 72, 73, 74, 75, 76, 77, 78, 79, 80, 81, 82, 83, 84, 85, 86, 87, 88, 89] (by decide +kernel) (by decide +kernel)
set_option maxRecDepth 20000 in
theorem gX3_digest_X3_aboutOf : GoodIn wsX3_digest (wsV RX3 137 RX3 yX3_aboutOf wsX3_aboutOf) := goodIn_app (goodIn_of _ (by decide +kernel)) ggX3_digest_X3_aboutOf
set_option maxRecDepth 20000 in
theorem ggX3_digest_X3_frozenAt : GoodIn wsX3_digest wsX3_frozenAt := goodIn_r _ [43, 25, 44, 45, 46, 47, 12, 48, 3, 49, 50, 51, 57, 58, 59, 60, 61, 62, 63, 64, 65, 66, 67, 68, 69, 70, 71, 72, 73, 74, 75, 76, 77, 78, 79, 80, 81, 82, 83, 84, 85, 86, 87, 88, 89] (by decide +kernel) (by decide +kernel)
set_option maxRecDepth 20000 in
theorem gX3_digest_X3_frozenAt : GoodIn wsX3_digest (wsV RX3 173 RX3 yX3_frozenAt wsX3_frozenAt) := goodIn_app (goodIn_of _ (by decide +kernel)) ggX3_digest_X3_frozenAt
set_option maxRecDepth 20000 in
theorem ggX3_digest_X3_frozen : GoodIn wsX3_digest wsX3_frozen := goodIn_r _ [55, 25, 56, 45, 46, 47, 12, 48, 3, 49, 50, 51, 57, 58, 59, 60, 61, 62, 63, 64, 65, 66, 67, 68, 69, 70, 71, 72, 73, 74, 75, 76, 77, 78, 79, 80, 81, 82, 83, 84, 85, 86, 87, 88, 89] (by decide +kernel) (by decide +kernel)
set_option maxRecDepth 20000 in
theorem gX3_digest_X3_frozen : GoodIn wsX3_digest (wsV RX3 176 RX3 yX3_frozen wsX3_frozen) := goodIn_app (goodIn_of _ (by decide +kernel)) ggX3_digest_X3_frozen
theorem dX3_digest_0 : decode cX3_digest 0 = .ok (.ldc2_w 166, 3) := by decide +kernel
theorem dX3_digest_3 : decode cX3_digest 3 = .ok (.lstore_n 1, 1) := by decide +kernel
theorem dX3_digest_4 : decode cX3_digest 4 = .ok (.iconst 0, 1) := by decide +kernel
theorem dX3_digest_5 : decode cX3_digest 5 = .ok (.istore_n 3, 1) := by decide +kernel
theorem dX3_digest_6 : decode cX3_digest 6 = .ok (.iload_n 3, 1) := by decide +kernel
theorem dX3_digest_7 : decode cX3_digest 7 = .ok (.bipush 8, 2) := by decide +kernel
theorem dX3_digest_9 : decode cX3_digest 9 = .ok (.if_icmp .ge 22, 3) := by decide +kernel
theorem dX3_digest_12 : decode cX3_digest 12 = .ok (.ldc2_w 168, 3) := by decide +kernel
theorem dX3_digest_15 : decode cX3_digest 15 = .ok (.lload_n 1, 1) := by decide +kernel
theorem dX3_digest_16 : decode cX3_digest 16 = .ok (.lmul, 1) := by decide +kernel
theorem dX3_digest_17 : decode cX3_digest 17 = .ok (.aload_n 0, 1) := by decide +kernel
theorem dX3_digest_18 : decode cX3_digest 18 = .ok (.iload_n 3, 1) := by decide +kernel
theorem dX3_digest_19 : decode cX3_digest 19 = .ok (.invokevirtual 170, 3) := by decide +kernel
theorem dX3_digest_22 : decode cX3_digest 22 = .ok (.i2l, 1) := by decide +kernel
theorem dX3_digest_23 : decode cX3_digest 23 = .ok (.ladd, 1) := by decide +kernel
theorem dX3_digest_24 : decode cX3_digest 24 = .ok (.lstore_n 1, 1) := by decide +kernel
theorem dX3_digest_25 : decode cX3_digest 25 = .ok (.iinc 3 1, 3) := by decide +kernel
theorem dX3_digest_28 : decode cX3_digest 28 = .ok (.goto (-22), 3) := by decide +kernel
theorem dX3_digest_31 : decode cX3_digest 31 = .ok (.iconst 0, 1) := by decide +kernel
theorem dX3_digest_32 : decode cX3_digest 32 = .ok (.istore_n 3, 1) := by decide +kernel
theorem dX3_digest_33 : decode cX3_digest 33 = .ok (.iload_n 3, 1) := by decide +kernel
theorem dX3_digest_34 : decode cX3_digest 34 = .ok (.aload_n 0, 1) := by decide +kernel
theorem dX3_digest_35 : decode cX3_digest 35 = .ok (.getfield 93, 3) := by decide +kernel
theorem dX3_digest_38 : decode cX3_digest 38 = .ok (.if_icmp .ge 97, 3) := by decide +kernel
theorem dX3_digest_41 : decode cX3_digest 41 = .ok (.iconst 0, 1) := by decide +kernel
theorem dX3_digest_42 : decode cX3_digest 42 = .ok (.istore 4, 2) := by decide +kernel
theorem dX3_digest_44 : decode cX3_digest 44 = .ok (.iload 4, 2) := by decide +kernel
theorem dX3_digest_46 : decode cX3_digest 46 = .ok (.bipush 8, 2) := by decide +kernel
theorem dX3_digest_48 : decode cX3_digest 48 = .ok (.if_icmp .ge 24, 3) := by decide +kernel
theorem dX3_digest_51 : decode cX3_digest 51 = .ok (.ldc2_w 168, 3) := by decide +kernel
theorem dX3_digest_54 : decode cX3_digest 54 = .ok (.lload_n 1, 1) := by decide +kernel
theorem dX3_digest_55 : decode cX3_digest 55 = .ok (.lmul, 1) := by decide +kernel
theorem dX3_digest_56 : decode cX3_digest 56 = .ok (.aload_n 0, 1) := by decide +kernel
theorem dX3_digest_57 : decode cX3_digest 57 = .ok (.iload_n 3, 1) := by decide +kernel
theorem dX3_digest_58 : decode cX3_digest 58 = .ok (.iload 4, 2) := by decide +kernel
theorem dX3_digest_60 : decode cX3_digest 60 = .ok (.invokevirtual 137, 3) := by decide +kernel
theorem dX3_digest_63 : decode cX3_digest 63 = .ok (.i2l, 1) := by decide +kernel
theorem dX3_digest_64 : decode cX3_digest 64 = .ok (.ladd, 1) := by decide +kernel
theorem dX3_digest_65 : decode cX3_digest 65 = .ok (.lstore_n 1, 1) := by decide +kernel
theorem dX3_digest_66 : decode cX3_digest 66 = .ok (.iinc 4 1, 3) := by decide +kernel
theorem dX3_digest_69 : decode cX3_digest 69 = .ok (.goto (-25), 3) := by decide +kernel
theorem dX3_digest_72 : decode cX3_digest 72 = .ok (.ldc2_w 168, 3) := by decide +kernel
theorem dX3_digest_75 : decode cX3_digest 75 = .ok (.lload_n 1, 1) := by decide +kernel
theorem dX3_digest_76 : decode cX3_digest 76 = .ok (.lmul, 1) := by decide +kernel
theorem dX3_digest_77 : decode cX3_digest 77 = .ok (.aload_n 0, 1) := by decide +kernel
theorem dX3_digest_78 : decode cX3_digest 78 = .ok (.iload_n 3, 1) := by decide +kernel
theorem dX3_digest_79 : decode cX3_digest 79 = .ok (.invokevirtual 173, 3) := by decide +kernel
theorem dX3_digest_82 : decode cX3_digest 82 = .ok (.i2l, 1) := by decide +kernel
theorem dX3_digest_83 : decode cX3_digest 83 = .ok (.ladd, 1) := by decide +kernel
theorem dX3_digest_84 : decode cX3_digest 84 = .ok (.lstore_n 1, 1) := by decide +kernel
theorem dX3_digest_85 : decode cX3_digest 85 = .ok (.iconst 0, 1) := by decide +kernel
theorem dX3_digest_86 : decode cX3_digest 86 = .ok (.istore 4, 2) := by decide +kernel
theorem dX3_digest_88 : decode cX3_digest 88 = .ok (.iload 4, 2) := by decide +kernel
theorem dX3_digest_90 : decode cX3_digest 90 = .ok (.iconst 4, 1) := by decide +kernel
theorem dX3_digest_91 : decode cX3_digest 91 = .ok (.if_icmp .ge 24, 3) := by decide +kernel
theorem dX3_digest_94 : decode cX3_digest 94 = .ok (.ldc2_w 168, 3) := by decide +kernel
theorem dX3_digest_97 : decode cX3_digest 97 = .ok (.lload_n 1, 1) := by decide +kernel
theorem dX3_digest_98 : decode cX3_digest 98 = .ok (.lmul, 1) := by decide +kernel
theorem dX3_digest_99 : decode cX3_digest 99 = .ok (.aload_n 0, 1) := by decide +kernel
theorem dX3_digest_100 : decode cX3_digest 100 = .ok (.iload_n 3, 1) := by decide +kernel
theorem dX3_digest_101 : decode cX3_digest 101 = .ok (.iload 4, 2) := by decide +kernel
theorem dX3_digest_103 : decode cX3_digest 103 = .ok (.invokevirtual 176, 3) := by decide +kernel
theorem dX3_digest_106 : decode cX3_digest 106 = .ok (.i2l, 1) := by decide +kernel
theorem dX3_digest_107 : decode cX3_digest 107 = .ok (.ladd, 1) := by decide +kernel
theorem dX3_digest_108 : decode cX3_digest 108 = .ok (.lstore_n 1, 1) := by decide +kernel
theorem dX3_digest_109 : decode cX3_digest 109 = .ok (.iinc 4 1, 3) := by decide +kernel
theorem dX3_digest_112 : decode cX3_digest 112 = .ok (.goto (-24), 3) := by decide +kernel
theorem dX3_digest_115 : decode cX3_digest 115 = .ok (.ldc2_w 168, 3) := by decide +kernel
theorem dX3_digest_118 : decode cX3_digest 118 = .ok (.lload_n 1, 1) := by decide +kernel
theorem dX3_digest_119 : decode cX3_digest 119 = .ok (.lmul, 1) := by decide +kernel
theorem dX3_digest_120 : decode cX3_digest 120 = .ok (.aload_n 0, 1) := by decide +kernel
theorem dX3_digest_121 : decode cX3_digest 121 = .ok (.getfield 53, 3) := by decide +kernel
theorem dX3_digest_124 : decode cX3_digest 124 = .ok (.iload_n 3, 1) := by decide +kernel
theorem dX3_digest_125 : decode cX3_digest 125 = .ok (.iaload, 1) := by decide +kernel
theorem dX3_digest_126 : decode cX3_digest 126 = .ok (.i2l, 1) := by decide +kernel
theorem dX3_digest_127 : decode cX3_digest 127 = .ok (.ladd, 1) := by decide +kernel
theorem dX3_digest_128 : decode cX3_digest 128 = .ok (.lstore_n 1, 1) := by decide +kernel
theorem dX3_digest_129 : decode cX3_digest 129 = .ok (.iinc 3 1, 3) := by decide +kernel
theorem dX3_digest_132 : decode cX3_digest 132 = .ok (.goto (-99), 3) := by decide +kernel
theorem dX3_digest_135 : decode cX3_digest 135 = .ok (.iconst 0, 1) := by decide +kernel
theorem dX3_digest_136 : decode cX3_digest 136 = .ok (.istore_n 3, 1) := by decide +kernel
theorem dX3_digest_137 : decode cX3_digest 137 = .ok (.iload_n 3, 1) := by decide +kernel
theorem dX3_digest_138 : decode cX3_digest 138 = .ok (.iconst 4, 1) := by decide +kernel
theorem dX3_digest_139 : decode cX3_digest 139 = .ok (.if_icmp .ge 23, 3) := by decide +kernel
theorem dX3_digest_142 : decode cX3_digest 142 = .ok (.ldc2_w 168, 3) := by decide +kernel
theorem dX3_digest_145 : decode cX3_digest 145 = .ok (.lload_n 1, 1) := by decide +kernel
theorem dX3_digest_146 : decode cX3_digest 146 = .ok (.lmul, 1) := by decide +kernel
theorem dX3_digest_147 : decode cX3_digest 147 = .ok (.aload_n 0, 1) := by decide +kernel
theorem dX3_digest_148 : decode cX3_digest 148 = .ok (.getfield 59, 3) := by decide +kernel
theorem dX3_digest_151 : decode cX3_digest 151 = .ok (.iload_n 3, 1) := by decide +kernel
theorem dX3_digest_152 : decode cX3_digest 152 = .ok (.iaload, 1) := by decide +kernel
theorem dX3_digest_153 : decode cX3_digest 153 = .ok (.i2l, 1) := by decide +kernel
theorem dX3_digest_154 : decode cX3_digest 154 = .ok (.ladd, 1) := by decide +kernel
theorem dX3_digest_155 : decode cX3_digest 155 = .ok (.lstore_n 1, 1) := by decide +kernel
theorem dX3_digest_156 : decode cX3_digest 156 = .ok (.iinc 3 1, 3) := by decide +kernel
theorem dX3_digest_159 : decode cX3_digest 159 = .ok (.goto (-22), 3) := by decide +kernel
theorem dX3_digest_162 : decode cX3_digest 162 = .ok (.iconst 0, 1) := by decide +kernel
theorem dX3_digest_163 : decode cX3_digest 163 = .ok (.istore_n 3, 1) := by decide +kernel
theorem dX3_digest_164 : decode cX3_digest 164 = .ok (.iload_n 3, 1) := by decide +kernel
theorem dX3_digest_165 : decode cX3_digest 165 = .ok (.aload_n 0, 1) := by decide +kernel
theorem dX3_digest_166 : decode cX3_digest 166 = .ok (.getfield 141, 3) := by decide +kernel
theorem dX3_digest_169 : decode cX3_digest 169 = .ok (.if_icmp .ge 35, 3) := by decide +kernel
theorem dX3_digest_172 : decode cX3_digest 172 = .ok (.ldc2_w 168, 3) := by decide +kernel
theorem dX3_digest_175 : decode cX3_digest 175 = .ok (.ldc2_w 168, 3) := by decide +kernel
theorem dX3_digest_178 : decode cX3_digest 178 = .ok (.lload_n 1, 1) := by decide +kernel
theorem dX3_digest_179 : decode cX3_digest 179 = .ok (.lmul, 1) := by decide +kernel
theorem dX3_digest_180 : decode cX3_digest 180 = .ok (.aload_n 0, 1) := by decide +kernel
theorem dX3_digest_181 : decode cX3_digest 181 = .ok (.getfield 78, 3) := by decide +kernel
theorem dX3_digest_184 : decode cX3_digest 184 = .ok (.iload_n 3, 1) := by decide +kernel
theorem dX3_digest_185 : decode cX3_digest 185 = .ok (.iaload, 1) := by decide +kernel
theorem dX3_digest_186 : decode cX3_digest 186 = .ok (.i2l, 1) := by decide +kernel
theorem dX3_digest_187 : decode cX3_digest 187 = .ok (.ladd, 1) := by decide +kernel
theorem dX3_digest_188 : decode cX3_digest 188 = .ok (.lmul, 1) := by decide +kernel
theorem dX3_digest_189 : decode cX3_digest 189 = .ok (.aload_n 0, 1) := by decide +kernel
theorem dX3_digest_190 : decode cX3_digest 190 = .ok (.getfield 81, 3) := by decide +kernel
theorem dX3_digest_193 : decode cX3_digest 193 = .ok (.iload_n 3, 1) := by decide +kernel
theorem dX3_digest_194 : decode cX3_digest 194 = .ok (.iaload, 1) := by decide +kernel
theorem dX3_digest_195 : decode cX3_digest 195 = .ok (.i2l, 1) := by decide +kernel
theorem dX3_digest_196 : decode cX3_digest 196 = .ok (.ladd, 1) := by decide +kernel
theorem dX3_digest_197 : decode cX3_digest 197 = .ok (.lstore_n 1, 1) := by decide +kernel
theorem dX3_digest_198 : decode cX3_digest 198 = .ok (.iinc 3 1, 3) := by decide +kernel
theorem dX3_digest_201 : decode cX3_digest 201 = .ok (.goto (-37), 3) := by decide +kernel
theorem dX3_digest_204 : decode cX3_digest 204 = .ok (.lload_n 1, 1) := by decide +kernel
theorem dX3_digest_205 : decode cX3_digest 205 = .ok (.lreturn, 1) := by decide +kernel
end
section
theorem dJ6_bitCount_0f7a4_0 : decode cJ6_bitCount_0f7a4 0 = .ok (.iload_n 0, 1) := by decide +kernel
theorem dJ6_bitCount_0f7a4_1 : decode cJ6_bitCount_0f7a4 1 = .ok (.iload_n 0, 1) := by decide +kernel
theorem dJ6_bitCount_0f7a4_2 : decode cJ6_bitCount_0f7a4 2 = .ok (.iconst 1, 1) := by decide +kernel
theorem dJ6_bitCount_0f7a4_3 : decode cJ6_bitCount_0f7a4 3 = .ok (.iushr, 1) := by decide +kernel
theorem dJ6_bitCount_0f7a4_4 : decode cJ6_bitCount_0f7a4 4 = .ok (.ldc_w 265, 3) := by decide +kernel
theorem dJ6_bitCount_0f7a4_7 : decode cJ6_bitCount_0f7a4 7 = .ok (.iand, 1) := by decide +kernel
theorem dJ6_bitCount_0f7a4_8 : decode cJ6_bitCount_0f7a4 8 = .ok (.isub, 1) := by decide +kernel
theorem dJ6_bitCount_0f7a4_9 : decode cJ6_bitCount_0f7a4 9 = .ok (.istore_n 0, 1) := by decide +kernel
theorem dJ6_bitCount_0f7a4_10 : decode cJ6_bitCount_0f7a4 10 = .ok (.iload_n 0, 1) := by decide +kernel
theorem dJ6_bitCount_0f7a4_11 : decode cJ6_bitCount_0f7a4 11 = .ok (.ldc_w 266, 3) := by decide +kernel
theorem dJ6_bitCount_0f7a4_14 : decode cJ6_bitCount_0f7a4 14 = .ok (.iand, 1) := by decide +kernel
theorem dJ6_bitCount_0f7a4_15 : decode cJ6_bitCount_0f7a4 15 = .ok (.iload_n 0, 1) := by decide +kernel
theorem dJ6_bitCount_0f7a4_16 : decode cJ6_bitCount_0f7a4 16 = .ok (.iconst 2, 1) := by decide +kernel
theorem dJ6_bitCount_0f7a4_17 : decode cJ6_bitCount_0f7a4 17 = .ok (.iushr, 1) := by decide +kernel
theorem dJ6_bitCount_0f7a4_18 : decode cJ6_bitCount_0f7a4 18 = .ok (.ldc_w 266, 3) := by decide +kernel
theorem dJ6_bitCount_0f7a4_21 : decode cJ6_bitCount_0f7a4 21 = .ok (.iand, 1) := by decide +kernel
theorem dJ6_bitCount_0f7a4_22 : decode cJ6_bitCount_0f7a4 22 = .ok (.iadd, 1) := by decide +kernel
theorem dJ6_bitCount_0f7a4_23 : decode cJ6_bitCount_0f7a4 23 = .ok (.istore_n 0, 1) := by decide +kernel
theorem dJ6_bitCount_0f7a4_24 : decode cJ6_bitCount_0f7a4 24 = .ok (.iload_n 0, 1) := by decide +kernel
theorem dJ6_bitCount_0f7a4_25 : decode cJ6_bitCount_0f7a4 25 = .ok (.iload_n 0, 1) := by decide +kernel
theorem dJ6_bitCount_0f7a4_26 : decode cJ6_bitCount_0f7a4 26 = .ok (.iconst 4, 1) := by decide +kernel
theorem dJ6_bitCount_0f7a4_27 : decode cJ6_bitCount_0f7a4 27 = .ok (.iushr, 1) := by decide +kernel
theorem dJ6_bitCount_0f7a4_28 : decode cJ6_bitCount_0f7a4 28 = .ok (.iadd, 1) := by decide +kernel
theorem dJ6_bitCount_0f7a4_29 : decode cJ6_bitCount_0f7a4 29 = .ok (.ldc_w 267, 3) := by decide +kernel
theorem dJ6_bitCount_0f7a4_32 : decode cJ6_bitCount_0f7a4 32 = .ok (.iand, 1) := by decide +kernel
theorem dJ6_bitCount_0f7a4_33 : decode cJ6_bitCount_0f7a4 33 = .ok (.istore_n 0, 1) := by decide +kernel
theorem dJ6_bitCount_0f7a4_34 : decode cJ6_bitCount_0f7a4 34 = .ok (.iload_n 0, 1) := by decide +kernel
theorem dJ6_bitCount_0f7a4_35 : decode cJ6_bitCount_0f7a4 35 = .ok (.iload_n 0, 1) := by decide +kernel
theorem dJ6_bitCount_0f7a4_36 : decode cJ6_bitCount_0f7a4 36 = .ok (.bipush 8, 2) := by decide +kernel
theorem dJ6_bitCount_0f7a4_38 : decode cJ6_bitCount_0f7a4 38 = .ok (.iushr, 1) := by decide +kernel
theorem dJ6_bitCount_0f7a4_39 : decode cJ6_bitCount_0f7a4 39 = .ok (.iadd, 1) := by decide +kernel
theorem dJ6_bitCount_0f7a4_40 : decode cJ6_bitCount_0f7a4 40 = .ok (.istore_n 0, 1) := by decide +kernel
theorem dJ6_bitCount_0f7a4_41 : decode cJ6_bitCount_0f7a4 41 = .ok (.iload_n 0, 1) := by decide +kernel
theorem dJ6_bitCount_0f7a4_42 : decode cJ6_bitCount_0f7a4 42 = .ok (.iload_n 0, 1) := by decide +kernel
theorem dJ6_bitCount_0f7a4_43 : decode cJ6_bitCount_0f7a4 43 = .ok (.bipush 16, 2) := by decide +kernel
theorem dJ6_bitCount_0f7a4_45 : decode cJ6_bitCount_0f7a4 45 = .ok (.iushr, 1) := by decide +kernel
theorem dJ6_bitCount_0f7a4_46 : decode cJ6_bitCount_0f7a4 46 = .ok (.iadd, 1) := by decide +kernel
theorem dJ6_bitCount_0f7a4_47 : decode cJ6_bitCount_0f7a4 47 = .ok (.istore_n 0, 1) := by decide +kernel
theorem dJ6_bitCount_0f7a4_48 : decode cJ6_bitCount_0f7a4 48 = .ok (.iload_n 0, 1) := by decide +kernel
theorem dJ6_bitCount_0f7a4_49 : decode cJ6_bitCount_0f7a4 49 = .ok (.bipush 63, 2) := by decide +kernel
theorem dJ6_bitCount_0f7a4_51 : decode cJ6_bitCount_0f7a4 51 = .ok (.iand, 1) := by decide +kernel
theorem dJ6_bitCount_0f7a4_52 : decode cJ6_bitCount_0f7a4 52 = .ok (.ireturn, 1) := by decide +kernel
abbrev vwCl : List vw_C := [(RX0, TX0, 18), (RX1, TX1, 13), (RX2, TX2, 9), (RX3, TX3, 33)]
end
section
/-! ===== the ground of this proof: contexts, contracts of readers and writers, calls ===== -/
abbrev rmK (d : Nat) : Room := { frames := d, cells := 0, slots := 0, locals := 40 * d }
abbrev rmA (d mc ms : Nat) : Room := { frames := d, cells := mc, slots := ms, locals := 40 * d }
abbrev tyA (cI cZ cC : ClassId) : List (ClassId × FieldType) := [(cI, .int), (cZ, .boolean), (cC, .object "TroubleCodes$Check")]
def bI (P : Prop) [Decidable P] : Int32 := if P then 1 else 0
theorem bI_t {P : Prop} [Decidable P] (h : P) : bI P = 1 := if_pos h
theorem bI_f {P : Prop} [Decidable P] (h : ¬ P) : bI P = 0 := if_neg h
theorem bI_ne {P : Prop} [Decidable P] (h : ¬ bI P = 0) : P := by
  by_cases q : P
  · exact q
  · exact absurd (bI_f q) h
theorem bI_eq {P : Prop} [Decidable P] (h : bI P = 0) : ¬ P := fun q => by
  rw [bI_t q] at h; exact absurd h (by decide)
theorem bI_01 (P : Prop) [Decidable P] : bI P = 0 ∨ bI P = 1 := by
  by_cases q : P
  · exact Or.inr (bI_t q)
  · exact Or.inl (bI_f q)
theorem bI_nar (P : Prop) [Decidable P] : narrow .boolean (.int (bI P)) = .int (bI P) := by
  by_cases q : P
  · rw [bI_t q]; rfl
  · rw [bI_f q]; rfl
theorem nar1 {x : Int32} (h : x = 0 ∨ x = 1) : narrow .boolean (.int x) = .int x := by
  rcases h with rfl | rfl <;> rfl
theorem narv1 {x : Int32} (h : x = 0 ∨ x = 1) : vp_nar .boolean x = x := by
  rcases h with rfl | rfl <;> rfl
theorem mem_at {l : List Cond} (i : Nat) {w : Cond} (h : l[i]? = some w) : w ∈ l := List.mem_of_getElem? h
theorem fit1 {x : Int32} (h : x = 0 ∨ x = 1) : fits .boolean (.int x) = true := by
  rcases h with rfl | rfl <;> rfl
def ix (x : Int32) : Nat := x.toNatClampNeg
theorem ix_nI {n : Nat} (h : n < 2 ^ 31) : ix (nI n) = n := nI_clamp h
theorem kx_lt {x : Int32} {n k : Nat} (hn : x = nI n) (hb : n < 2 ^ 31) (hk : k < 2 ^ 31) (c : ¬ x ≤ nI k) : k < n := by
  rw [hn] at c
  exact Nat.lt_of_not_le (fun h => c ((nI_leI hb hk).mpr h))
theorem kx_ge {x : Int32} {n k : Nat} (hn : x = nI n) (hb : n < 2 ^ 31) (hk : k < 2 ^ 31) (c : x ≤ nI k) : n ≤ k := by
  rw [hn] at c
  exact (nI_leI hb hk).mp c
def sumN (f : Nat → Int32) : Nat → Int32
  | 0 => 0
  | k + 1 => sumN f k + f k
def s1 (g : Nat → Nat → Int32) (k i : Nat) (x : Int32) : Nat → Nat → Int32 := va_up g k (upd (g k) i x)
def sc (g : Nat → Nat → Int32) (k : Nat) (x : Int32) : Nat → Nat → Int32 := va_up g k (fun _ => x)
abbrev xPre (D : va_G) (cI cZ cC : ClassId) (P : Heap → Prop) : State → Prop := fun U => P U.heap ∧ va_K D vwCl (tyA cI cZ cC) U
theorem xPre_blind {D : va_G} {cI cZ cC : ClassId} {P : Heap → Prop} {av : List Value} : FrameBlind (va_Pc av (xPre D cI cZ cC P)) := fun a U g mk h => ⟨h.1, h.2.1, va_K.moved (u := U) (U := U.calling g mk a) (Vm.Alike.refl U.vm) h.2.2⟩
/-- a method that only reads: its answer -/
def RdC (l : Launch) (y : MethodName) (ws : List Cond) (rm : Room) (D : va_G) (cI cZ cC : ClassId) (av : List Value) (P : Heap → Prop) (post : Int32 → Prop) : Prop := Met l y ws rm (va_Pc av (xPre D cI cZ cC P)) (vp_Si post) 0 0 (fun _ => False)
def RdL (l : Launch) (y : MethodName) (ws : List Cond) (rm : Room) (D : va_G) (cI cZ cC : ClassId) (av : List Value) (P : Heap → Prop) (post : Int64 → Prop) : Prop := Met l y ws rm (va_Pc av (xPre D cI cZ cC P)) (vp_Sl post) 0 0 (fun _ => False)
def RdQ (l : Launch) (y : MethodName) (ws : List Cond) (rm : Room) (D : va_G) (cI cZ cC : ClassId) (av : List Value) (P : Heap → Prop) (post : Option Nat → Prop) : Prop := Met l y ws rm (va_Pc av (xPre D cI cZ cC P)) (va_Sq post) 0 0 (fun _ => False)
abbrev xW (D : va_G) (w : va_W) (sz : Nat) : Heap → Prop := fun H => H.size = sz ∧ va_P D vwCl w H ∧ va_D (fun _ => True) w
abbrev xE (D : va_G) (cI cZ cC : ClassId) (w w' : va_W) (sz : Nat) : Unit → State → Prop := fun _ t => va_P D vwCl w' t.heap ∧ va_K D vwCl (tyA cI cZ cC) t ∧ va_D (va_A w sz) w'
/-- a method that writes in its world w, makes nothing, and leaves the world w' -/
def WrI (l : Launch) (y : MethodName) (ws : List Cond) (rm : Room) (D : va_G) (cI cZ cC : ClassId) (av : List Value) (w w' : va_W) (post : Int32 → Prop) : Prop := ∀ sz : Nat, Met l y ws rm (va_Pc av (xPre D cI cZ cC (xW D w sz))) (va_Qi (fun r (_ : Unit) => post r) (xE D cI cZ cC w w' sz) (va_A w sz)) 0 0 (va_A w sz)
def WrV (l : Launch) (y : MethodName) (ws : List Cond) (rm : Room) (D : va_G) (cI cZ cC : ClassId) (av : List Value) (w w' : va_W) : Prop := ∀ sz : Nat, Met l y ws rm (va_Pc av (xPre D cI cZ cC (xW D w sz))) (va_Qv (fun (_ : Unit) => True) (xE D cI cZ cC w w' sz) (va_A w sz)) 0 0 (va_A w sz)
theorem RdC.of {l : Launch} {y : MethodName} {ws ws' : List Cond} {rm : Room} {D : va_G} {cI cZ cC : ClassId} {av : List Value} {P : Heap → Prop} {post : Int32 → Prop} {cc : ByteArray} {maxL : Nat} {ret : FieldType} (hy : plainName y.cls = true) (hw : ws = Cond.code y cc maxL (some ret) :: ws') (hlen : (lg_sl av).length ≤ maxL)
    (body : ∀ (p : Program) (e : Env) (s : State) (m : MethodId) (args : Array Value) (below : List Frame) (meth : Method) (c : Code) (Q : State → Prop) (ls : Array Slot), p.tables.exec = Jvm.exec → c.code = cc → c.maxLocals = maxL → (∀ w ∈ ws, w.before args s = true) → s.vm.findClass y.cls = some m.cls → va_K D vwCl (tyA cI cZ cC) s → P s.heap →
      (∀ (pc : Nat) (ls : Array Slot) (v : Int32), post v → narrow ret (.int v) = .int v → decode cc pc = .ok (.ireturn, 1) → W p l e rm s m args below meth c s.heap [] 0 0 Q (F0 m pc ls [.int v])) →
      lv_has ls maxL (lv_args 0 av) → W p l e rm s m args below meth c s.heap [] 0 0 Q (F0 m 0 ls [])) : RdC l y ws rm D cI cZ cC av P post := by
  refine Met.ofW (cc := cc) (maxL := maxL) (ret := some ret) hy hw ?_
  intro p e s m args below meth c s₁ B hml hv
  obtain ⟨rfl, hP, hK⟩ := hv
  have hl := lv_entry av (n := maxL) hlen
  rw [lg_entry_eq]
  refine body p e s m _ below meth c _ _ B.exec B.bytes hml (atoms_spec B.pre) (findClass_of_methodNamed B.named) hK hP (fun pc ls v hv hn hdg => ?_) hl
  exact W.zret B.exec B.bytes B.returns hn (fun t ht hW => ⟨v, rfl, hv, ht⟩) (fun q h => by cases h) hdg
theorem RdL.of {l : Launch} {y : MethodName} {ws ws' : List Cond} {rm : Room} {D : va_G} {cI cZ cC : ClassId} {av : List Value} {P : Heap → Prop} {post : Int64 → Prop} {cc : ByteArray} {maxL : Nat} (hy : plainName y.cls = true) (hw : ws = Cond.code y cc maxL (some .long) :: ws') (hlen : (lg_sl av).length ≤ maxL)
    (body : ∀ (p : Program) (e : Env) (s : State) (m : MethodId) (args : Array Value) (below : List Frame) (meth : Method) (c : Code) (Q : State → Prop) (ls : Array Slot), p.tables.exec = Jvm.exec → c.code = cc → c.maxLocals = maxL → (∀ w ∈ ws, w.before args s = true) → s.vm.findClass y.cls = some m.cls → va_K D vwCl (tyA cI cZ cC) s → P s.heap →
      (∀ (pc : Nat) (ls : Array Slot) (v : Int64), post v → decode cc pc = .ok (.lreturn, 1) → W p l e rm s m args below meth c s.heap [] 0 0 Q (F0 m pc ls [.long v])) →
      lv_has ls maxL (lv_args 0 av) → W p l e rm s m args below meth c s.heap [] 0 0 Q (F0 m 0 ls [])) : RdL l y ws rm D cI cZ cC av P post := by
  refine Met.ofW (cc := cc) (maxL := maxL) (ret := some .long) hy hw ?_
  intro p e s m args below meth c s₁ B hml hv
  obtain ⟨rfl, hP, hK⟩ := hv
  have hl := lv_entry av (n := maxL) hlen
  rw [lg_entry_eq]
  refine body p e s m _ below meth c _ _ B.exec B.bytes hml (atoms_spec B.pre) (findClass_of_methodNamed B.named) hK hP (fun pc ls v hv hdg => ?_) hl
  exact W.lret B.exec B.bytes B.returns (fun t ht hW => ⟨v, rfl, hv, ht⟩) (fun q h => by cases h) hdg
theorem RdQ.of {l : Launch} {y : MethodName} {ws ws' : List Cond} {rm : Room} {D : va_G} {cI cZ cC : ClassId} {av : List Value} {P : Heap → Prop} {post : Option Nat → Prop} {cc : ByteArray} {maxL : Nat} {rt : FieldType} (hy : plainName y.cls = true) (hw : ws = Cond.code y cc maxL (some rt) :: ws') (hrt : (∃ n, rt = .object n) ∨ ∃ t, rt = .array t) (hlen : (lg_sl av).length ≤ maxL)
    (body : ∀ (p : Program) (e : Env) (s : State) (m : MethodId) (args : Array Value) (below : List Frame) (meth : Method) (c : Code) (Q : State → Prop) (ls : Array Slot), p.tables.exec = Jvm.exec → c.code = cc → c.maxLocals = maxL → (∀ w ∈ ws, w.before args s = true) → s.vm.findClass y.cls = some m.cls → va_K D vwCl (tyA cI cZ cC) s → P s.heap →
      (∀ (pc : Nat) (ls : Array Slot) (v : Option Nat), post v → decode cc pc = .ok (.areturn, 1) → W p l e rm s m args below meth c s.heap [] 0 0 Q (F0 m pc ls [va_rf v])) →
      lv_has ls maxL (lv_args 0 av) → W p l e rm s m args below meth c s.heap [] 0 0 Q (F0 m 0 ls [])) : RdQ l y ws rm D cI cZ cC av P post := by
  refine Met.ofW (cc := cc) (maxL := maxL) (ret := some rt) hy hw ?_
  intro p e s m args below meth c s₁ B hml hv
  obtain ⟨rfl, hP, hK⟩ := hv
  have hl := lv_entry av (n := maxL) hlen
  rw [lg_entry_eq]
  refine body p e s m _ below meth c _ _ B.exec B.bytes hml (atoms_spec B.pre) (findClass_of_methodNamed B.named) hK hP (fun pc ls v hv hdg => ?_) hl
  exact W.aret B.exec B.bytes B.returns hrt (va_rf_or v) (fun t ht hW => ⟨v, rfl, hv, ht⟩) (fun q h => by cases h) hdg
theorem WrI.of {l : Launch} {y : MethodName} {ws ws' : List Cond} {rm : Room} {D : va_G} {cI cZ cC : ClassId} {av : List Value} {w w' : va_W} {post : Int32 → Prop} {cc : ByteArray} {maxL : Nat} {ret : FieldType} (hy : plainName y.cls = true) (hw : ws = Cond.code y cc maxL (some ret) :: ws') (hlen : (lg_sl av).length ≤ maxL)
    (body : ∀ (p : Program) (e : Env) (s : State) (m : MethodId) (args : Array Value) (below : List Frame) (meth : Method) (c : Code) (Q : State → Prop) (A : Nat → Prop) (ls : Array Slot), p.tables.exec = Jvm.exec → c.code = cc → c.maxLocals = maxL → (∀ w ∈ ws, w.before args s = true) → s.vm.findClass y.cls = some m.cls → va_K D vwCl (tyA cI cZ cC) s → va_P D vwCl w s.heap → va_D A w → va_S A s.heap s.heap [] → (∀ q : Nat, s.heap.size ≤ q → A q) →
      (∀ (pc : Nat) (ls : Array Slot) (v : Int32) (H : Heap) (locs : List Loc), post v → va_P D vwCl w' H → va_D A w' → va_S A s.heap H locs → narrow ret (.int v) = .int v → decode cc pc = .ok (.ireturn, 1) → W p l e rm s m args below meth c H locs 0 0 Q (F0 m pc ls [.int v])) →
      lv_has ls maxL (lv_args 0 av) → W p l e rm s m args below meth c s.heap [] 0 0 Q (F0 m 0 ls [])) : WrI l y ws rm D cI cZ cC av w w' post := by
  intro sz
  refine Met.ofW (cc := cc) (maxL := maxL) (ret := some ret) hy hw ?_
  intro p e s m args below meth c s₁ B hml hv
  obtain ⟨rfl, ⟨hsz, hP, hD0⟩, hK⟩ := hv
  subst hsz
  have hl := lv_entry av (n := maxL) hlen
  rw [lg_entry_eq]
  refine body p e s m _ below meth c _ (va_A w s.heap.size) _ B.exec B.bytes hml (atoms_spec B.pre) (findClass_of_methodNamed B.named) hK hP hD0.self va_S.rf (fun q h => Or.inr h) (fun pc ls v H locs hv hP' hD' hS' hn hdg => ?_) hl
  exact W.zret B.exec B.bytes B.returns hn (fun t ht hW => ⟨⟨v, (), rfl, hv, by rw [ht]; exact hP', va_K.moved hW.alike hK, hD'⟩, hS'.F ht⟩) hS'.2.2 hdg
theorem WrV.of {l : Launch} {y : MethodName} {ws ws' : List Cond} {rm : Room} {D : va_G} {cI cZ cC : ClassId} {av : List Value} {w w' : va_W} {cc : ByteArray} {maxL : Nat} (hy : plainName y.cls = true) (hw : ws = Cond.code y cc maxL none :: ws') (hlen : (lg_sl av).length ≤ maxL)
    (body : ∀ (p : Program) (e : Env) (s : State) (m : MethodId) (args : Array Value) (below : List Frame) (meth : Method) (c : Code) (Q : State → Prop) (A : Nat → Prop) (ls : Array Slot), p.tables.exec = Jvm.exec → c.code = cc → c.maxLocals = maxL → (∀ w ∈ ws, w.before args s = true) → s.vm.findClass y.cls = some m.cls → va_K D vwCl (tyA cI cZ cC) s → va_P D vwCl w s.heap → va_D A w → va_S A s.heap s.heap [] → (∀ q : Nat, s.heap.size ≤ q → A q) →
      (∀ (pc : Nat) (ls : Array Slot) (H : Heap) (locs : List Loc), va_P D vwCl w' H → va_D A w' → va_S A s.heap H locs → decode cc pc = .ok (.return_, 1) → W p l e rm s m args below meth c H locs 0 0 Q (F0 m pc ls [])) →
      lv_has ls maxL (lv_args 0 av) → W p l e rm s m args below meth c s.heap [] 0 0 Q (F0 m 0 ls [])) : WrV l y ws rm D cI cZ cC av w w' := by
  intro sz
  refine Met.ofW (cc := cc) (maxL := maxL) (ret := none) hy hw ?_
  intro p e s m args below meth c s₁ B hml hv
  obtain ⟨rfl, ⟨hsz, hP, hD0⟩, hK⟩ := hv
  subst hsz
  have hl := lv_entry av (n := maxL) hlen
  rw [lg_entry_eq]
  refine body p e s m _ below meth c _ (va_A w s.heap.size) _ B.exec B.bytes hml (atoms_spec B.pre) (findClass_of_methodNamed B.named) hK hP hD0.self va_S.rf (fun q h => Or.inr h) (fun pc ls H locs hP' hD' hS' hdg => ?_) hl
  exact W.vret B.exec B.bytes B.returns (fun t ht hW => ⟨⟨(), rfl, trivial, by rw [ht]; exact hP', va_K.moved hW.alike hK, hD'⟩, hS'.F ht⟩) hS'.2.2 hdg
/-! worlds: cells set at places -/
def setL : va_W → List (Nat × (Nat × va_E)) → va_W
  | w, [] => w
  | w, x :: r => setL (w.set x.1 x.2) r
theorem setL_len : ∀ (L : List (Nat × (Nat × va_E))) (w : va_W), (setL w L).length = w.length
  | [], w => rfl
  | x :: r, w => by rw [setL, setL_len r]; exact List.length_set
theorem setL_get : ∀ (L : List (Nat × (Nat × va_E))) (w : va_W) (k : Nat) (q : Nat × va_E), (setL w L)[k]? = some q → (w[k]? = some q ∧ ∀ x ∈ L, x.1 ≠ k) ∨ (∃ x ∈ L, x.1 = k ∧ x.2 = q)
  | [], w, k, q, h => Or.inl ⟨h, fun x hx => by cases hx⟩
  | x :: r, w, k, q, h => by
    rcases setL_get r (w.set x.1 x.2) k q h with ⟨h1, h2⟩ | ⟨y, hy, h1, h2⟩
    · by_cases hk : k = x.1
      · subst hk
        have hl : x.1 < w.length := by
          have := (List.getElem?_eq_some_iff.mp h1).1
          rwa [List.length_set] at this
        rw [List.getElem?_set_self hl] at h1
        exact Or.inr ⟨x, List.mem_cons_self, rfl, Option.some.inj h1⟩
      · rw [List.getElem?_set_ne (Ne.symm hk)] at h1
        refine Or.inl ⟨h1, fun y hy => ?_⟩
        rcases List.mem_cons.mp hy with rfl | hy
        · exact Ne.symm hk
        · exact h2 y hy
    · exact Or.inr ⟨y, List.mem_cons_of_mem _ hy, h1, h2⟩
theorem setL_D {A : Nat → Prop} : ∀ (L : List (Nat × (Nat × va_E))) (w : va_W), va_D A w → (∀ x ∈ L, ∃ e, w[x.1]? = some (x.2.1, e)) → va_D A (setL w L)
  | [], w, h, _ => h
  | x :: r, w, h, hx => by
    obtain ⟨e, he⟩ := hx x List.mem_cons_self
    refine setL_D r (w.set x.1 x.2) (va_D.set (e := x.2.2) h he) (fun y hy => ?_)
    obtain ⟨e2, he2⟩ := hx y (List.mem_cons_of_mem _ hy)
    by_cases hk : y.1 = x.1
    · have hl := (List.getElem?_eq_some_iff.mp he).1
      rw [hk, he] at he2
      have e4 := Option.some.inj he2
      have e3 : x.2.1 = y.2.1 := (Prod.mk.inj e4).1
      exact ⟨x.2.2, by rw [hk, List.getElem?_set_self hl, ← e3]⟩
    · exact ⟨e2, by rw [List.getElem?_set_ne (Ne.symm hk)]; exact he2⟩
/-- behind a call over some cells of a world (places and new cells in L): they are set, the others stay -/
theorem join_set {A0 : Nat → Prop} {D : va_G} {cl : List vw_C} {ws wc w1 : va_W} {H H1 : Heap} (hP : va_P D cl ws H) (hD : va_D A0 ws) (L : List (Nat × (Nat × va_E))) (hL : L.map (fun x => ws[x.1]?.map Prod.fst) = L.map (fun x => some x.2.1)) (hwc : wc.map Prod.fst = L.map (fun x => x.2.1)) (hw1 : L.map Prod.snd = w1)
    (hk : ∀ q : Nat, q < H.size → ¬ va_A wc H.size q → H1[q]? = H[q]?) (hP1 : va_P D cl w1 H1) : va_P D cl (setL ws L) H1 ∧ va_D A0 (setL ws L) := by
  have hx : ∀ x ∈ L, ∃ e, ws[x.1]? = some (x.2.1, e) := by
    intro x hx
    have h0 : ws[x.1]?.map Prod.fst = some x.2.1 := by
      have := List.map_inj_left.mp hL x hx
      exact this
    cases h1 : ws[x.1]? with
    | none => rw [h1] at h0; cases h0
    | some q => rw [h1] at h0; exact ⟨q.2, by rw [← Option.some.inj h0]⟩
  refine ⟨fun k q hq => ?_, setL_D L ws hD hx⟩
  rcases setL_get L ws k q hq with ⟨h1, h2⟩ | ⟨x, hxL, -, h2⟩
  · have hlt := (hP k q h1).lt
    refine (hP k q h1).kept (hk q.1 hlt (fun h => ?_))
    rcases h with ⟨j, e, hj⟩ | h
    · have hm : q.1 ∈ wc.map Prod.fst := List.mem_map.mpr ⟨(q.1, e), List.mem_of_getElem? hj, rfl⟩
      rw [hwc] at hm
      obtain ⟨x, hxL, hxe⟩ := List.mem_map.mp hm
      obtain ⟨e2, he2⟩ := hx x hxL
      exact h2 x hxL (hD.1 _ _ _ _ he2 h1 hxe)
    · omega
  · have hm : q ∈ w1 := by rw [← hw1]; exact List.mem_map.mpr ⟨x, hxL, h2⟩
    obtain ⟨j, hj⟩ := List.getElem?_of_mem hm
    exact hP1 j q hj
/-- a part of a world -/
theorem sub_P {D : va_G} {cl : List vw_C} {ws wc : va_W} {H : Heap} (h : va_P D cl ws H) (is : List Nat) (hs : is.map (fun i => ws[i]?) = wc.map some) : va_P D cl wc H := by
  intro k q hk
  have h1 : (is.map (fun i => ws[i]?))[k]? = some (some q) := by rw [hs, List.getElem?_map, hk]; rfl
  rw [List.getElem?_map] at h1
  cases hi : is[k]? with
  | none => rw [hi] at h1; cases h1
  | some i => rw [hi] at h1; exact h i q (Option.some.inj h1)
section XC
variable {p : Program} {l : Launch} {e : Env} {R : Room} {s : State} {m : MethodId} {args : Array Value} {below : List Frame} {meth : Method} {c : Code} {H : Heap} {locs : List Loc} {cells slots : Nat} {Q : State → Prop}
variable {cc bytes : ByteArray} {nL maxL n index pc : Nat} {own C : String} {y : MethodName} {ret : Option FieldType} {ws : List Cond} {rm : Room} {Ts : List Cond} {b : Addr} {As rest st0 : List Value} {ls : Array Slot} {D : va_G} {cI cZ cC : ClassId} {P : Heap → Prop} {A0 : Nat → Prop} {H0 : Heap} {w w' : va_W}
theorem x_rdV {post : Int32 → Prop} (S : CallFix p m c cc nL s args Ts own) (hM : RdC l y ws rm D cI cZ cC (.ref b :: As) P post) (cw : CallW R s args own C index y bytes maxL ret ws rm 0 0 n) (hK : va_K D vwCl (tyA cI cZ cC) s) (hr : ∃ cell : Cell, H[b]? = some cell ∧ cell.vm.isStatics = false ∧ s.vm.findClass C = some cell.cls) (hP : P H) (hn : As.length = n) (hsz : ls.size = nL) (hst : st0 = As.reverse ++ .ref b :: rest) (hW : (rest.map fun v => v.category).sum ≤ 8) (hdg : decode cc pc = .ok (.invokevirtual index, 3)) (hf : cells + 0 ≤ R.cells ∧ slots + 0 ≤ R.slots)
    (kk : ∀ r : Int32, post r → W p l e R s m args below meth c H locs cells slots Q (F0 m (pc + 3) ls (.int r :: rest))) : W p l e R s m args below meth c H locs cells slots Q (F0 m pc ls st0) := by
  subst hst
  exact vp_callSi (va_Run.run (va_runV S hM cw ⟨xPre_blind, hr, fun U hU hW => ⟨rfl, by rw [hU]; exact hP, va_K.moved hW.alike hK⟩⟩ rfl hn hsz rfl (lv_room hW) hdg hf)) kk
theorem x_rdS {post : Int32 → Prop} (S : CallFix p m c cc nL s args Ts own) (hM : RdC l y ws rm D cI cZ cC As P post) (cw : CallB R s args own index y bytes maxL ret ws rm 0 0 n ∧ (Cond.static y).before args s = true) (hK : va_K D vwCl (tyA cI cZ cC) s) (hP : P H) (hn : As.length = n) (hsz : ls.size = nL) (hst : st0 = As.reverse ++ rest) (hW : (rest.map fun v => v.category).sum ≤ 8) (hdg : decode cc pc = .ok (.invokestatic index, 3)) (hf : cells + 0 ≤ R.cells ∧ slots + 0 ≤ R.slots)
    (kk : ∀ r : Int32, post r → W p l e R s m args below meth c H locs cells slots Q (F0 m (pc + 3) ls (.int r :: rest))) : W p l e R s m args below meth c H locs cells slots Q (F0 m pc ls st0) := by
  subst hst
  exact vp_callSi (va_Run.run (va_runS S hM cw ⟨xPre_blind, fun U hU hW => ⟨rfl, by rw [hU]; exact hP, va_K.moved hW.alike hK⟩⟩ rfl hn hsz rfl (lv_room hW) hdg hf)) kk
theorem x_rlV {post : Int64 → Prop} (S : CallFix p m c cc nL s args Ts own) (hM : RdL l y ws rm D cI cZ cC (.ref b :: As) P post) (cw : CallW R s args own C index y bytes maxL ret ws rm 0 0 n) (hK : va_K D vwCl (tyA cI cZ cC) s) (hr : ∃ cell : Cell, H[b]? = some cell ∧ cell.vm.isStatics = false ∧ s.vm.findClass C = some cell.cls) (hP : P H) (hn : As.length = n) (hsz : ls.size = nL) (hst : st0 = As.reverse ++ .ref b :: rest) (hW : (rest.map fun v => v.category).sum ≤ 8) (hdg : decode cc pc = .ok (.invokevirtual index, 3)) (hf : cells + 0 ≤ R.cells ∧ slots + 0 ≤ R.slots)
    (kk : ∀ r : Int64, post r → W p l e R s m args below meth c H locs cells slots Q (F0 m (pc + 3) ls (.long r :: rest))) : W p l e R s m args below meth c H locs cells slots Q (F0 m pc ls st0) := by
  subst hst
  exact vp_callSl (va_Run.run (va_runV S hM cw ⟨xPre_blind, hr, fun U hU hW => ⟨rfl, by rw [hU]; exact hP, va_K.moved hW.alike hK⟩⟩ rfl hn hsz rfl (lv_room hW) hdg hf)) kk
theorem x_rqV {post : Option Nat → Prop} (S : CallFix p m c cc nL s args Ts own) (hM : RdQ l y ws rm D cI cZ cC (.ref b :: As) P post) (cw : CallW R s args own C index y bytes maxL ret ws rm 0 0 n) (hK : va_K D vwCl (tyA cI cZ cC) s) (hr : ∃ cell : Cell, H[b]? = some cell ∧ cell.vm.isStatics = false ∧ s.vm.findClass C = some cell.cls) (hP : P H) (hn : As.length = n) (hsz : ls.size = nL) (hst : st0 = As.reverse ++ .ref b :: rest) (hW : (rest.map fun v => v.category).sum ≤ 8) (hdg : decode cc pc = .ok (.invokevirtual index, 3)) (hf : cells + 0 ≤ R.cells ∧ slots + 0 ≤ R.slots)
    (kk : ∀ r : Option Nat, post r → W p l e R s m args below meth c H locs cells slots Q (F0 m (pc + 3) ls (va_rf r :: rest))) : W p l e R s m args below meth c H locs cells slots Q (F0 m pc ls st0) := by
  subst hst
  exact va_csq (va_Run.run (va_runV S hM cw ⟨xPre_blind, hr, fun U hU hW => ⟨rfl, by rw [hU]; exact hP, va_K.moved hW.alike hK⟩⟩ rfl hn hsz rfl (lv_room hW) hdg hf)) kk
/-- a call of a writer over some cells of the caller's world: their places and new contents in L -/
theorem x_wiV {ww : va_W} {post : Int32 → Prop} (S : CallFix p m c cc nL s args Ts own) (hM : WrI l y ws rm D cI cZ cC (.ref b :: As) w w' post) (cw : CallW R s args own C index y bytes maxL ret ws rm 0 0 n) (hK : va_K D vwCl (tyA cI cZ cC) s) (hr : ∃ cell : Cell, H[b]? = some cell ∧ cell.vm.isStatics = false ∧ s.vm.findClass C = some cell.cls) (hP : va_P D vwCl ww H) (hD : va_D A0 ww) (hS : va_S A0 H0 H locs) (hA : ∀ q : Nat, H0.size ≤ q → A0 q)
    (is : List Nat) (hnd : va_nd is = true) (hs : is.map (fun i => ww[i]?) = w.map some) (hw' : w'.map Prod.fst = w.map Prod.fst) (hn : As.length = n) (hsz : ls.size = nL) (hst : st0 = As.reverse ++ .ref b :: rest) (hW : (rest.map fun v => v.category).sum ≤ 8) (hdg : decode cc pc = .ok (.invokevirtual index, 3)) (hf : cells + 0 ≤ R.cells ∧ slots + 0 ≤ R.slots)
    (kk : ∀ (r : Int32) (H1 : Heap) (locs1 : List Loc), post r → va_P D vwCl (setL ww (is.zip w')) H1 → va_D A0 (setL ww (is.zip w')) → va_S A0 H0 H1 locs1 → W p l e R s m args below meth c H1 locs1 cells slots Q (F0 m (pc + 3) ls (.int r :: rest))) : W p l e R s m args below meth c H locs cells slots Q (F0 m pc ls st0) := by
  subst hst
  have hF := va_free hD hS hA is hs
  refine va_calli (va_runV S (hM H.size) cw ⟨xPre_blind, hr, fun U hU hW => ⟨rfl, ⟨by rw [hU], by rw [hU]; exact sub_P hP is hs, (hD.sub is hnd hs).weaken (fun _ _ _ _ => trivial)⟩, va_K.moved hW.alike hK⟩⟩ rfl hn hsz rfl (lv_room hW) hdg hf) hS (fun q _ h => hF q h) hF (fun r u t H1 locs1 ht hvm hw hB hz1 hk1 hS1 => ?_)
  obtain ⟨hP1, hK1, hD1⟩ := hB
  rw [ht] at hP1
  have hlen : is.length = w.length := by have := congrArg List.length hs; rwa [List.length_map, List.length_map] at this
  have hlen' : w'.length = w.length := by have := congrArg List.length hw'; rwa [List.length_map, List.length_map] at this
  have hL2 : (is.zip w').map Prod.snd = w' := List.map_snd_zip (by omega)
  have hfst : (is.zip w').map (fun x => x.2.1) = w.map Prod.fst := by
    rw [← hw']
    have : (is.zip w').map (fun x => x.2.1) = ((is.zip w').map Prod.snd).map Prod.fst := by rw [List.map_map]; rfl
    rw [this, hL2]
  have hL : (is.zip w').map (fun x => ww[x.1]?.map Prod.fst) = (is.zip w').map (fun x => some x.2.1) := by
    have e1 : (is.zip w').map (fun x => ww[x.1]?.map Prod.fst) = (is.map (fun i => ww[i]?)).map (Option.map Prod.fst) := by
      rw [List.map_map]
      have : is = (is.zip w').map Prod.fst := (List.map_fst_zip (by omega)).symm
      conv => rhs; rw [this]
      rw [List.map_map]; rfl
    have e2 : (is.zip w').map (fun x => some x.2.1) = ((is.zip w').map (fun x => x.2.1)).map some := by rw [List.map_map]; rfl
    rw [e1, hs, e2, hfst, List.map_map, List.map_map]; rfl
  obtain ⟨hP2, hD2⟩ := join_set hP hD (is.zip w') hL (hfst ▸ rfl) hL2 hk1 hP1
  exact kk r H1 locs1 hw hP2 hD2 hS1
theorem x_wvV {ww : va_W} (S : CallFix p m c cc nL s args Ts own) (hM : WrV l y ws rm D cI cZ cC (.ref b :: As) w w') (cw : CallW R s args own C index y bytes maxL ret ws rm 0 0 n) (hK : va_K D vwCl (tyA cI cZ cC) s) (hr : ∃ cell : Cell, H[b]? = some cell ∧ cell.vm.isStatics = false ∧ s.vm.findClass C = some cell.cls) (hP : va_P D vwCl ww H) (hD : va_D A0 ww) (hS : va_S A0 H0 H locs) (hA : ∀ q : Nat, H0.size ≤ q → A0 q)
    (is : List Nat) (hnd : va_nd is = true) (hs : is.map (fun i => ww[i]?) = w.map some) (hw' : w'.map Prod.fst = w.map Prod.fst) (hn : As.length = n) (hsz : ls.size = nL) (hst : st0 = As.reverse ++ .ref b :: rest) (hW : (rest.map fun v => v.category).sum ≤ 8) (hdg : decode cc pc = .ok (.invokevirtual index, 3)) (hf : cells + 0 ≤ R.cells ∧ slots + 0 ≤ R.slots)
    (kk : ∀ (H1 : Heap) (locs1 : List Loc), va_P D vwCl (setL ww (is.zip w')) H1 → va_D A0 (setL ww (is.zip w')) → va_S A0 H0 H1 locs1 → W p l e R s m args below meth c H1 locs1 cells slots Q (F0 m (pc + 3) ls rest)) : W p l e R s m args below meth c H locs cells slots Q (F0 m pc ls st0) := by
  subst hst
  have hF := va_free hD hS hA is hs
  refine va_callv (va_runV S (hM H.size) cw ⟨xPre_blind, hr, fun U hU hW => ⟨rfl, ⟨by rw [hU], by rw [hU]; exact sub_P hP is hs, (hD.sub is hnd hs).weaken (fun _ _ _ _ => trivial)⟩, va_K.moved hW.alike hK⟩⟩ rfl hn hsz rfl (lv_room hW) hdg hf) hS (fun q _ h => hF q h) hF (fun u t H1 locs1 ht hvm hw hB hz1 hk1 hS1 => ?_)
  obtain ⟨hP1, hK1, hD1⟩ := hB
  rw [ht] at hP1
  have hlen : is.length = w.length := by have := congrArg List.length hs; rwa [List.length_map, List.length_map] at this
  have hlen' : w'.length = w.length := by have := congrArg List.length hw'; rwa [List.length_map, List.length_map] at this
  have hL2 : (is.zip w').map Prod.snd = w' := List.map_snd_zip (by omega)
  have hfst : (is.zip w').map (fun x => x.2.1) = w.map Prod.fst := by
    rw [← hw']
    have : (is.zip w').map (fun x => x.2.1) = ((is.zip w').map Prod.snd).map Prod.fst := by rw [List.map_map]; rfl
    rw [this, hL2]
  have hL : (is.zip w').map (fun x => ww[x.1]?.map Prod.fst) = (is.zip w').map (fun x => some x.2.1) := by
    have e1 : (is.zip w').map (fun x => ww[x.1]?.map Prod.fst) = (is.map (fun i => ww[i]?)).map (Option.map Prod.fst) := by
      rw [List.map_map]
      have : is = (is.zip w').map Prod.fst := (List.map_fst_zip (by omega)).symm
      conv => rhs; rw [this]
      rw [List.map_map]; rfl
    have e2 : (is.zip w').map (fun x => some x.2.1) = ((is.zip w').map (fun x => x.2.1)).map some := by rw [List.map_map]; rfl
    rw [e1, hs, e2, hfst, List.map_map, List.map_map]; rfl
  obtain ⟨hP2, hD2⟩ := join_set hP hD (is.zip w') hL (hfst ▸ rfl) hL2 hk1 hP1
  exact kk H1 locs1 hP2 hD2 hS1
/-- the same over the caller's whole world -/
theorem x_wiW {post : Int32 → Prop} (S : CallFix p m c cc nL s args Ts own) (hM : WrI l y ws rm D cI cZ cC (.ref b :: As) w w' post) (cw : CallW R s args own C index y bytes maxL ret ws rm 0 0 n) (hK : va_K D vwCl (tyA cI cZ cC) s) (hr : ∃ cell : Cell, H[b]? = some cell ∧ cell.vm.isStatics = false ∧ s.vm.findClass C = some cell.cls) (hP : va_P D vwCl w H) (hD : va_D A0 w) (hS : va_S A0 H0 H locs) (hA : ∀ q : Nat, H0.size ≤ q → A0 q)
    (hn : As.length = n) (hsz : ls.size = nL) (hst : st0 = As.reverse ++ .ref b :: rest) (hW : (rest.map fun v => v.category).sum ≤ 8) (hdg : decode cc pc = .ok (.invokevirtual index, 3)) (hf : cells + 0 ≤ R.cells ∧ slots + 0 ≤ R.slots)
    (kk : ∀ (r : Int32) (H1 : Heap) (locs1 : List Loc), post r → va_P D vwCl w' H1 → va_D A0 w' → va_S A0 H0 H1 locs1 → W p l e R s m args below meth c H1 locs1 cells slots Q (F0 m (pc + 3) ls (.int r :: rest))) : W p l e R s m args below meth c H locs cells slots Q (F0 m pc ls st0) := by
  subst hst
  have hF : ∀ q, va_A w H.size q → A0 q := fun q h => by
    rcases h with ⟨k, e, h⟩ | h
    · exact hD.2 k _ h
    · exact hA q (Nat.le_trans hS.1 h)
  refine va_calli (va_runV S (hM H.size) cw ⟨xPre_blind, hr, fun U hU hW => ⟨rfl, ⟨by rw [hU], by rw [hU]; exact hP, hD.weaken (fun _ _ _ _ => trivial)⟩, va_K.moved hW.alike hK⟩⟩ rfl hn hsz rfl (lv_room hW) hdg hf) hS (fun q _ h => hF q h) hF (fun r u t H1 locs1 ht hvm hw hB hz1 hk1 hS1 => ?_)
  obtain ⟨hP1, hK1, hD1⟩ := hB
  rw [ht] at hP1
  exact kk r H1 locs1 hw hP1 (hD1.weaken (fun k q _ h => hF q.1 h)) hS1
theorem x_wvW (S : CallFix p m c cc nL s args Ts own) (hM : WrV l y ws rm D cI cZ cC (.ref b :: As) w w') (cw : CallW R s args own C index y bytes maxL ret ws rm 0 0 n) (hK : va_K D vwCl (tyA cI cZ cC) s) (hr : ∃ cell : Cell, H[b]? = some cell ∧ cell.vm.isStatics = false ∧ s.vm.findClass C = some cell.cls) (hP : va_P D vwCl w H) (hD : va_D A0 w) (hS : va_S A0 H0 H locs) (hA : ∀ q : Nat, H0.size ≤ q → A0 q)
    (hn : As.length = n) (hsz : ls.size = nL) (hst : st0 = As.reverse ++ .ref b :: rest) (hW : (rest.map fun v => v.category).sum ≤ 8) (hdg : decode cc pc = .ok (.invokevirtual index, 3)) (hf : cells + 0 ≤ R.cells ∧ slots + 0 ≤ R.slots)
    (kk : ∀ (H1 : Heap) (locs1 : List Loc), va_P D vwCl w' H1 → va_D A0 w' → va_S A0 H0 H1 locs1 → W p l e R s m args below meth c H1 locs1 cells slots Q (F0 m (pc + 3) ls rest)) : W p l e R s m args below meth c H locs cells slots Q (F0 m pc ls st0) := by
  subst hst
  have hF : ∀ q, va_A w H.size q → A0 q := fun q h => by
    rcases h with ⟨k, e, h⟩ | h
    · exact hD.2 k _ h
    · exact hA q (Nat.le_trans hS.1 h)
  refine va_callv (va_runV S (hM H.size) cw ⟨xPre_blind, hr, fun U hU hW => ⟨rfl, ⟨by rw [hU], by rw [hU]; exact hP, hD.weaken (fun _ _ _ _ => trivial)⟩, va_K.moved hW.alike hK⟩⟩ rfl hn hsz rfl (lv_room hW) hdg hf) hS (fun q _ h => hF q h) hF (fun u t H1 locs1 ht hvm hw hB hz1 hk1 hS1 => ?_)
  obtain ⟨hP1, hK1, hD1⟩ := hB
  rw [ht] at hP1
  exact kk H1 locs1 hP1 (hD1.weaken (fun k q _ h => hF q.1 h)) hS1
end XC
section XR
variable {p : Program} {l : Launch} {e : Env} {R : Room} {s : State} {m : MethodId} {args : Array Value} {below : List Frame} {meth : Method} {c : Code} {H : Heap} {locs : List Loc} {cells slots : Nat} {Q : State → Prop}
variable {cc : ByteArray} {pc : Nat} {ls : Array Slot} {rest : List Value} {D : va_G} {cI cZ cC : ClassId} {A : Nat → Prop} {a : Nat} {ws : va_W} {H0 : Heap}
/-- array reads and writes at an index that is a small number -/
theorem x_iald (hx : p.tables.exec = Jvm.exec) (hb : c.code = cc) (hK : va_K D vwCl (tyA cI cZ cC) s) (hP : va_P D vwCl ws H) (q0 : Nat) {n k : Nat} {f : Nat → Int32} (ha : ws[q0]? = some (a, .inl (cI, n, .inl f))) (hk : k < n) (hn : n < 2 ^ 31) (hdg : decode cc pc = .ok (.iaload, 1))
    (kk : W p l e R s m args below meth c H locs cells slots Q (F0 m (pc + 1) ls (.int (f k) :: rest))) : W p l e R s m args below meth c H locs cells slots Q (F0 m pc ls (.int (nI k) :: .ref a :: rest)) := by
  refine va_iald hx hb hK hP q0 0 ha rfl (vp_in_nI hk hn) hdg ?_
  rw [nI_clamp (Nat.lt_trans hk hn)]; exact kk
theorem x_zald (hx : p.tables.exec = Jvm.exec) (hb : c.code = cc) (hK : va_K D vwCl (tyA cI cZ cC) s) (hP : va_P D vwCl ws H) (q0 : Nat) {n k : Nat} {f : Nat → Int32} (ha : ws[q0]? = some (a, .inl (cZ, n, .inl f))) (hk : k < n) (hn : n < 2 ^ 31) (hdg : decode cc pc = .ok (.baload, 1))
    (kk : W p l e R s m args below meth c H locs cells slots Q (F0 m (pc + 1) ls (.int (f k) :: rest))) : W p l e R s m args below meth c H locs cells slots Q (F0 m pc ls (.int (nI k) :: .ref a :: rest)) := by
  refine va_zald hx hb hK hP q0 1 ha rfl (vp_in_nI hk hn) hdg ?_
  rw [nI_clamp (Nat.lt_trans hk hn)]; exact kk
theorem x_aald (hx : p.tables.exec = Jvm.exec) (hb : c.code = cc) (hK : va_K D vwCl (tyA cI cZ cC) s) (hP : va_P D vwCl ws H) (q0 : Nat) {n k : Nat} {f : Nat → Option Nat} (ha : ws[q0]? = some (a, .inl (cC, n, .inr (.inr (.inr (.inr f)))))) (hk : k < n) (hn : n < 2 ^ 31) (hdg : decode cc pc = .ok (.aaload, 1))
    (kk : W p l e R s m args below meth c H locs cells slots Q (F0 m (pc + 1) ls (va_rf (f k) :: rest))) : W p l e R s m args below meth c H locs cells slots Q (F0 m pc ls (.int (nI k) :: .ref a :: rest)) := by
  refine va_aldq (C := "TroubleCodes$Check") hx hb hK hP q0 2 ha rfl (vp_in_nI hk hn) hdg ?_
  rw [nI_clamp (Nat.lt_trans hk hn)]; exact kk
theorem x_iast (hx : p.tables.exec = Jvm.exec) (hb : c.code = cc) (hK : va_K D vwCl (tyA cI cZ cC) s) (hP : va_P D vwCl ws H) (hD : va_D A ws) (hS : va_S A H0 H locs) (q0 : Nat) {n k : Nat} {f : Nat → Int32} (ha : ws[q0]? = some (a, .inl (cI, n, .inl f))) {x : Int32} (hk : k < n) (hn : n < 2 ^ 31) (hdg : decode cc pc = .ok (.iastore, 1))
    (kk : ∀ (H1 : Heap) (locs1 : List Loc), va_P D vwCl (ws.set q0 (a, .inl (cI, n, .inl (upd f k x)))) H1 → va_D A (ws.set q0 (a, .inl (cI, n, .inl (upd f k x)))) → va_S A H0 H1 locs1 → W p l e R s m args below meth c H1 locs1 cells slots Q (F0 m (pc + 1) ls rest)) : W p l e R s m args below meth c H locs cells slots Q (F0 m pc ls (.int x :: .int (nI k) :: .ref a :: rest)) := by
  refine va_iast hx hb hK hP hD hS q0 0 ha rfl (vp_in_nI hk hn) hdg ?_
  rw [nI_clamp (Nat.lt_trans hk hn)]; exact kk
theorem x_zast (hx : p.tables.exec = Jvm.exec) (hb : c.code = cc) (hK : va_K D vwCl (tyA cI cZ cC) s) (hP : va_P D vwCl ws H) (hD : va_D A ws) (hS : va_S A H0 H locs) (q0 : Nat) {n k : Nat} {f : Nat → Int32} (ha : ws[q0]? = some (a, .inl (cZ, n, .inl f))) {x : Int32} (h01 : x = 0 ∨ x = 1) (hk : k < n) (hn : n < 2 ^ 31) (hdg : decode cc pc = .ok (.bastore, 1))
    (kk : ∀ (H1 : Heap) (locs1 : List Loc), va_P D vwCl (ws.set q0 (a, .inl (cZ, n, .inl (upd f k x)))) H1 → va_D A (ws.set q0 (a, .inl (cZ, n, .inl (upd f k x)))) → va_S A H0 H1 locs1 → W p l e R s m args below meth c H1 locs1 cells slots Q (F0 m (pc + 1) ls rest)) : W p l e R s m args below meth c H locs cells slots Q (F0 m pc ls (.int x :: .int (nI k) :: .ref a :: rest)) := by
  refine va_zast hx hb hK hP hD hS q0 1 ha rfl (vp_in_nI hk hn) hdg ?_
  rw [nI_clamp (Nat.lt_trans hk hn), narv1 h01]; exact kk
theorem x_recv {b : Nat} {ci q0 : Nat} {q : vw_C} {fs : List Value} (hK : va_K D vwCl (tyA cI cZ cC) s) (hP : va_P D vwCl ws H) (hc : vwCl[ci]? = some q) (he : ws[q0]? = some (b, .inr (ci, fs))) : ∃ cell : Cell, H[b]? = some cell ∧ cell.vm.isStatics = false ∧ s.vm.findClass q.1 = some cell.cls := va_recv hK hP hc he
end XR
end
section
abbrev mF (q : Nat → Nat) (g : Nat → Nat → Int32) : List Value := [.int (g 0 0), .ref (q 1), .ref (q 2), .ref (q 3), .ref (q 4), .ref (q 5), .ref (q 6), .ref (q 7), .ref (q 8), .ref (q 9), .ref (q 10), .ref (q 11), .ref (q 12), .ref (q 13), .ref (q 14), .ref (q 15), .ref (q 16), .int (g 17 0), .int (g 18 0), .ref (q 19), .int (g 20 0), .ref (q 21), .ref (q 22), .ref (q 23), .ref (q 24), .int (g 25 0), .int (g 26 0), .ref (q 27), .ref (q 28), .int (g 29 0), .ref (q 30), .ref (q 31), .ref (q 32)]
abbrev mW (cI cZ : ClassId) (q : Nat → Nat) (o : Nat) (g : Nat → Nat → Int32) : va_W := [(o, .inr (3, mF q g)), (q 1, .inl (cI, 16, .inl (g 1))), (q 2, .inl (cI, 16, .inl (g 2))), (q 3, .inl (cI, 16, .inl (g 3))), (q 4, .inl (cI, 16, .inl (g 4))), (q 5, .inl (cI, 16, .inl (g 5))), (q 6, .inl (cI, 16, .inl (g 6))), (q 7, .inl (cZ, 16, .inl (g 7))), (q 8, .inl (cI, 16, .inl (g 8))), (q 9, .inl (cI, 16, .inl (g 9))), (q 10, .inl (cI, 16, .inl (g 10))), (q 11, .inl (cI, 16, .inl (g 11))), (q 12, .inl (cZ, 16, .inl (g 12))), (q 13, .inl (cI, 16, .inl (g 13))), (q 14, .inl (cI, 16, .inl (g 14))), (q 15, .inl (cI, 16, .inl (g 15))), (q 16, .inl (cI, 256, .inl (g 16))), (q 19, .inl (cI, 4, .inl (g 19))), (q 21, .inl (cZ, 16, .inl (g 21))), (q 22, .inl (cI, 64, .inl (g 22))), (q 23, .inl (cI, 16, .inl (g 23))), (q 24, .inl (cI, 16, .inl (g 24))), (q 27, .inl (cI, 10, .inl (g 27))), (q 28, .inl (cI, 10, .inl (g 28))), (q 30, .inl (cI, 10, .inl (g 30))), (q 31, .inl (cI, 1024, .inl (g 31))), (q 32, .inl (cI, 1024, .inl (g 32)))]

theorem tb_in7 {x : Int32} (c : ¬ (x.toInt < 0 ∨ 7 < x.toInt)) : x = 0 ∨ x = 1 ∨ x = 2 ∨ x = 3 ∨ x = 4 ∨ x = 5 ∨ x = 6 ∨ x = 7 := by
  have h2 : x = Int32.ofInt x.toInt := (Int32.ofInt_toInt x).symm
  rcases (by omega : x.toInt = 0 ∨ x.toInt = 1 ∨ x.toInt = 2 ∨ x.toInt = 3 ∨ x.toInt = 4 ∨ x.toInt = 5 ∨ x.toInt = 6 ∨ x.toInt = 7) with h | h | h | h | h | h | h | h <;> rw [h] at h2 <;> rw [h2] <;> decide
theorem tb_in6 {x : Int32} (c : ¬ (x.toInt < 0 ∨ 6 < x.toInt)) : x = 0 ∨ x = 1 ∨ x = 2 ∨ x = 3 ∨ x = 4 ∨ x = 5 ∨ x = 6 := by
  have h2 : x = Int32.ofInt x.toInt := (Int32.ofInt_toInt x).symm
  rcases (by omega : x.toInt = 0 ∨ x.toInt = 1 ∨ x.toInt = 2 ∨ x.toInt = 3 ∨ x.toInt = 4 ∨ x.toInt = 5 ∨ x.toInt = 6) with h | h | h | h | h | h | h <;> rw [h] at h2 <;> rw [h2] <;> decide
/-- a checked number is one of the first n -/
theorem ixck {x y : Int32} {n : Nat} (hn : y = nI n) (hb : n < 2 ^ 30) (c : 0 ≤ x ∧ x ≤ y - 1) : ∃ j, j < n ∧ x = nI j := by
  rw [hn] at c
  have h0 : (0 : Int) ≤ x.toInt := by have := Int32.le_iff_toInt_le.mp c.1; simpa using this
  have h1 := Int32.le_iff_toInt_le.mp c.2
  rw [show (1 : Int32) = nI 1 from rfl] at h1
  rw [pk_sub_toInt hb (by decide)] at h1
  refine ⟨x.toInt.toNat, by omega, ?_⟩
  apply Int32.toInt_inj.mp
  rw [nI_toInt (by omega)]
  omega
theorem ixck_nI {y : Int32} {n j : Nat} (hn : y = nI n) (hb : n < 2 ^ 30) (h : j < n) : 0 ≤ nI j ∧ nI j ≤ y - 1 := by
  rw [hn]
  constructor
  · exact nI_pos' (by omega)
  · rw [Int32.le_iff_toInt_le, show (1 : Int32) = nI 1 from rfl, pk_sub_toInt hb (by decide), nI_toInt (by omega)]; omega
theorem ixin {x : Int32} {m : Nat} {z : Int32} (hz : z = nI m) (hb : m < 2 ^ 30) (c : 0 ≤ x ∧ x ≤ z) : ∃ j, j ≤ m ∧ x = nI j := by
  rw [hz] at c
  have h0 : (0 : Int) ≤ x.toInt := by have := Int32.le_iff_toInt_le.mp c.1; simpa using this
  have h1 := Int32.le_iff_toInt_le.mp c.2
  rw [nI_toInt (by omega)] at h1
  refine ⟨x.toInt.toNat, by omega, ?_⟩
  apply Int32.toInt_inj.mp
  rw [nI_toInt (by omega)]
  omega
end
section
set_option maxHeartbeats 4000000 in
set_option maxRecDepth 100000 in
theorem tX3_in (l : Launch) (D : va_G) (cI cZ cC : ClassId) (v lo hi : Int32) : RdC l yX3_in wsX3_in (rmK 0) D cI cZ cC [.int v, .int lo, .int hi] (fun _ => True) (fun ans => ans = bI (lo ≤ v ∧ v ≤ hi)) := by
  refine RdC.of (cc := cX3_in) (maxL := 3) (ret := .boolean) (by decide) rfl (Nat.le_of_ble_eq_true rfl) ?_
  intro p e s m args below meth c Q ls hx hb hml hts hown hK hP hret hl
  have hl : lv_has ls 3 [(0, .int v), (1, .int lo), (2, .int hi)] := hl
  refine lv_iload_n hx hb dX3_in_0 rfl (lv_at hl 0 rfl) ?_
  refine lv_iload_n hx hb dX3_in_1 rfl (lv_at hl 1 rfl) ?_
  refine lv_icmp_lt (tgt := 14) hx hb dX3_in_2 (by decide) (fun c_1 => ?_) (fun c_1 => ?_)
  · refine lv_iconst (v := 0) hx hb dX3_in_14 (by decide) ?_
    exact hret 15 _ _ ((bI_f (fun h => absurd h.1 (Int32.not_le.mpr c_1))).symm) rfl dX3_in_15
  · refine lv_iload_n hx hb dX3_in_5 rfl (lv_at hl 0 rfl) ?_
    refine lv_iload_n hx hb dX3_in_6 rfl (lv_at hl 2 rfl) ?_
    refine lv_icmp_gt (tgt := 14) hx hb dX3_in_7 (by decide) (fun c_2 => ?_) (fun c_2 => ?_)
    · refine lv_iconst (v := 0) hx hb dX3_in_14 (by decide) ?_
      exact hret 15 _ _ ((bI_f (fun h => absurd h.2 (Int32.not_le.mpr c_2))).symm) rfl dX3_in_15
    · refine lv_iconst (v := 1) hx hb dX3_in_10 (by decide) ?_
      refine lv_goto (tgt := 15) hx hb dX3_in_11 (by decide) ?_
      exact hret 15 _ _ ((bI_t ⟨Int32.not_lt.mp c_1, Int32.not_lt.mp c_2⟩).symm) rfl dX3_in_15

set_option maxHeartbeats 4000000 in
set_option maxRecDepth 100000 in
theorem tX3_isCheck (l : Launch) (D : va_G) (cI cZ cC : ClassId) (q : Nat → Nat) (o : Nat) (g : Nat → Nat → Int32) (x : Int32) : RdC l yX3_isCheck wsX3_isCheck (rmK 1) D cI cZ cC [.ref o, .int x] (fun H => va_P D vwCl (mW cI cZ q o g) H) (fun ans => ans = bI (0 ≤ x ∧ x ≤ (g 0 0 - 1))) := by
  refine RdC.of (cc := cX3_isCheck) (maxL := 2) (ret := .boolean) (by decide) rfl (Nat.le_of_ble_eq_true rfl) ?_
  intro p e s m args below meth c Q ls hx hb hml hts hown hK hP hret hl
  have hl : lv_has ls 2 [(0, .ref o), (1, .int x)] := hl
  have hP : va_P D vwCl (mW cI cZ q o g) s.heap := hP
  have hinX3 : ∀ w ∈ u_ws RX3 TX3 33, w ∈ wsX3_isCheck := (fun w h => List.mem_cons_of_mem _ (List.mem_append_right _ h))
  refine lv_iload_n hx hb dX3_isCheck_0 rfl (lv_at hl 1 rfl) ?_
  refine lv_iconst (v := 0) hx hb dX3_isCheck_1 (by decide) ?_
  refine lv_aload_n hx hb dX3_isCheck_2 rfl (lv_at hl 0 rfl) ?_
  refine va_get (D := D) (ci := 3) (v := .int (g 0 0)) (C := RX3) (T := TX3) (N := 33) hx hb hts hinX3 hown hK hP 0 rfl rfl 0 (by decide) (hts (.fieldLink RX3 93 "TroubleCodesModel" "checks" "I") (mem_at 1 rfl)) (fun _ h9 => h9) rfl dX3_isCheck_3 ?_
  refine lv_iconst (v := 1) hx hb dX3_isCheck_6 (by decide) ?_
  refine lv_isub hx hb dX3_isCheck_7 ?_
  refine x_rdS (As := [.int x, .int 0, .int ((g 0 0) - 1)]) (rest := []) ⟨hx, hb, hml, hown, hts⟩ (tX3_in l D cI cZ cC x 0 ((g 0 0) - 1)) (va_cwS 3 hts gX3_isCheck_X3_in rfl rfl rfl (by decide +kernel) ⟨Nat.le_of_ble_eq_true rfl, Nat.le_of_ble_eq_true rfl⟩) hK trivial rfl hl.1 rfl (Nat.le_of_ble_eq_true rfl) dX3_isCheck_8 ⟨Nat.le_of_ble_eq_true rfl, Nat.le_of_ble_eq_true rfl⟩ (fun r_1 er_1 => ?_)
  have er_1 : r_1 = bI (0 ≤ x ∧ x ≤ ((g 0 0) - 1)) := er_1
  subst er_1
  exact hret 11 _ _ (rfl) (bI_nar _) dX3_isCheck_11

def fX3_wasGood (g : Nat → Nat → Int32) (k : Nat) : Nat → Nat → Int32 := if (g 8 k) = 1 then (va_up (va_up (va_up g 8 (upd (g 8) k 0)) 9 (upd (g 9) k 0)) 10 (upd (g 10) k ((g 10 k) + 1))) else (if (g 8 k) = 2 then (if ((g 10 k) + 1) < (g 4 k) then (va_up (va_up g 9 (upd (g 9) k 0)) 10 (upd (g 10) k ((g 10 k) + 1))) else (va_up (va_up (va_up (va_up g 8 (upd (g 8) k 3)) 9 (upd (g 9) k 0)) 10 (upd (g 10) k ((g 10 k) + 1))) 11 (upd (g 11) k 0))) else (va_up (va_up g 9 (upd (g 9) k 0)) 10 (upd (g 10) k ((g 10 k) + 1))))
set_option maxHeartbeats 4000000 in
set_option maxRecDepth 100000 in
theorem tX3_wasGood (l : Launch) (D : va_G) (cI cZ cC : ClassId) (q : Nat → Nat) (o : Nat) (g : Nat → Nat → Int32) (k : Nat) (hk : k < 16) : WrV l yX3_wasGood wsX3_wasGood (rmK 0) D cI cZ cC [.ref o, .int (nI k)] (mW cI cZ q o g) (mW cI cZ q o (fX3_wasGood g k)) := by
  refine WrV.of (cc := cX3_wasGood) (maxL := 2) (by decide) rfl (Nat.le_of_ble_eq_true rfl) ?_
  intro p e s m args below meth c Q A ls hx hb hml hts hown hK hP hD hS hA hret hl
  have hl : lv_has ls 2 [(0, .ref o), (1, .int (nI k))] := hl
  have hinX3 : ∀ w ∈ u_ws RX3 TX3 33, w ∈ wsX3_wasGood := (fun w h => List.mem_cons_of_mem _ (List.mem_append_right _ h))
  refine lv_aload_n hx hb dX3_wasGood_0 rfl (lv_at hl 0 rfl) ?_
  refine va_get (D := D) (ci := 3) (v := .ref (q 9)) (C := RX3) (T := TX3) (N := 33) hx hb hts hinX3 hown hK hP 0 rfl rfl 9 (by decide) (hts (.fieldLink RX3 35 "TroubleCodesModel" "bads" "[I") (mem_at 1 rfl)) (fun _ h9 => h9) rfl dX3_wasGood_1 ?_
  refine lv_iload_n hx hb dX3_wasGood_4 rfl (lv_at hl 1 rfl) ?_
  refine lv_iconst (v := 0) hx hb dX3_wasGood_5 (by decide) ?_
  refine x_iast (k := k) (f := g 9) (x := 0) hx hb hK hP hD hS 9 rfl (by omega) (by decide) dX3_wasGood_6 (fun H locs hP hD hS => ?_)
  have hP : va_P D vwCl (mW cI cZ q o (va_up g 9 (upd (g 9) k 0))) H := hP
  have hD : va_D A (mW cI cZ q o (va_up g 9 (upd (g 9) k 0))) := hD
  refine lv_aload_n hx hb dX3_wasGood_7 rfl (lv_at hl 0 rfl) ?_
  refine va_get (D := D) (ci := 3) (v := .ref (q 10)) (C := RX3) (T := TX3) (N := 33) hx hb hts hinX3 hown hK hP 0 rfl rfl 10 (by decide) (hts (.fieldLink RX3 38 "TroubleCodesModel" "goods" "[I") (mem_at 2 rfl)) (fun _ h9 => h9) rfl dX3_wasGood_8 ?_
  refine lv_iload_n hx hb dX3_wasGood_11 rfl (lv_at hl 1 rfl) ?_
  refine lv_dup2_11 hx hb dX3_wasGood_12 rfl rfl ?_
  refine x_iald (k := k) (f := g 10) hx hb hK hP 10 rfl (by omega) (by decide) dX3_wasGood_13 ?_
  refine lv_iconst (v := 1) hx hb dX3_wasGood_14 (by decide) ?_
  refine lv_iadd hx hb dX3_wasGood_15 ?_
  refine x_iast (k := k) (f := g 10) (x := (g 10 k) + 1) hx hb hK hP hD hS 10 rfl (by omega) (by decide) dX3_wasGood_16 (fun H locs hP hD hS => ?_)
  have hP : va_P D vwCl (mW cI cZ q o (va_up (va_up g 9 (upd (g 9) k 0)) 10 (upd (g 10) k ((g 10 k) + 1)))) H := hP
  have hD : va_D A (mW cI cZ q o (va_up (va_up g 9 (upd (g 9) k 0)) 10 (upd (g 10) k ((g 10 k) + 1)))) := hD
  refine lv_aload_n hx hb dX3_wasGood_17 rfl (lv_at hl 0 rfl) ?_
  refine va_get (D := D) (ci := 3) (v := .ref (q 8)) (C := RX3) (T := TX3) (N := 33) hx hb hts hinX3 hown hK hP 0 rfl rfl 8 (by decide) (hts (.fieldLink RX3 32 "TroubleCodesModel" "code" "[I") (mem_at 3 rfl)) (fun _ h9 => h9) rfl dX3_wasGood_18 ?_
  refine lv_iload_n hx hb dX3_wasGood_21 rfl (lv_at hl 1 rfl) ?_
  refine x_iald (k := k) (f := g 8) hx hb hK hP 8 rfl (by omega) (by decide) dX3_wasGood_22 ?_
  refine lv_iconst (v := 1) hx hb dX3_wasGood_23 (by decide) ?_
  refine lv_icmp_ne (tgt := 37) hx hb dX3_wasGood_24 (by decide) (fun c_1 => ?_) (fun c_1 => ?_)
  · refine lv_aload_n hx hb dX3_wasGood_37 rfl (lv_at hl 0 rfl) ?_
    refine va_get (D := D) (ci := 3) (v := .ref (q 8)) (C := RX3) (T := TX3) (N := 33) hx hb hts hinX3 hown hK hP 0 rfl rfl 8 (by decide) (hts (.fieldLink RX3 32 "TroubleCodesModel" "code" "[I") (mem_at 3 rfl)) (fun _ h9 => h9) rfl dX3_wasGood_38 ?_
    refine lv_iload_n hx hb dX3_wasGood_41 rfl (lv_at hl 1 rfl) ?_
    refine x_iald (k := k) (f := g 8) hx hb hK hP 8 rfl (by omega) (by decide) dX3_wasGood_42 ?_
    refine lv_iconst (v := 2) hx hb dX3_wasGood_43 (by decide) ?_
    refine lv_icmp_ne (tgt := 76) hx hb dX3_wasGood_44 (by decide) (fun c_2 => ?_) (fun c_2 => ?_)
    · have es : fX3_wasGood g k = va_up (va_up g 9 (upd (g 9) k 0)) 10 (upd (g 10) k ((g 10 k) + 1)) := by rw [fX3_wasGood]; rw [if_neg c_1, if_neg c_2]
      exact hret 76 _ _ _ (by rw [es]; exact hP) (by rw [es]; exact hD) hS dX3_wasGood_76
    · refine lv_aload_n hx hb dX3_wasGood_47 rfl (lv_at hl 0 rfl) ?_
      refine va_get (D := D) (ci := 3) (v := .ref (q 10)) (C := RX3) (T := TX3) (N := 33) hx hb hts hinX3 hown hK hP 0 rfl rfl 10 (by decide) (hts (.fieldLink RX3 38 "TroubleCodesModel" "goods" "[I") (mem_at 2 rfl)) (fun _ h9 => h9) rfl dX3_wasGood_48 ?_
      refine lv_iload_n hx hb dX3_wasGood_51 rfl (lv_at hl 1 rfl) ?_
      refine x_iald (k := k) (f := upd (g 10) k ((g 10 k) + 1)) hx hb hK hP 10 rfl (by omega) (by decide) dX3_wasGood_52 ?_
      rw [pk_us]
      refine lv_aload_n hx hb dX3_wasGood_53 rfl (lv_at hl 0 rfl) ?_
      refine va_get (D := D) (ci := 3) (v := .ref (q 4)) (C := RX3) (T := TX3) (N := 33) hx hb hts hinX3 hown hK hP 0 rfl rfl 4 (by decide) (hts (.fieldLink RX3 19 "TroubleCodesModel" "goodAt" "[I") (mem_at 4 rfl)) (fun _ h9 => h9) rfl dX3_wasGood_54 ?_
      refine lv_iload_n hx hb dX3_wasGood_57 rfl (lv_at hl 1 rfl) ?_
      refine x_iald (k := k) (f := g 4) hx hb hK hP 4 rfl (by omega) (by decide) dX3_wasGood_58 ?_
      refine lv_icmp_lt (tgt := 76) hx hb dX3_wasGood_59 (by decide) (fun c_3 => ?_) (fun c_3 => ?_)
      · have es : fX3_wasGood g k = va_up (va_up g 9 (upd (g 9) k 0)) 10 (upd (g 10) k ((g 10 k) + 1)) := by rw [fX3_wasGood]; rw [if_neg c_1, if_pos c_2, if_pos c_3]
        exact hret 76 _ _ _ (by rw [es]; exact hP) (by rw [es]; exact hD) hS dX3_wasGood_76
      · refine lv_aload_n hx hb dX3_wasGood_62 rfl (lv_at hl 0 rfl) ?_
        refine va_get (D := D) (ci := 3) (v := .ref (q 8)) (C := RX3) (T := TX3) (N := 33) hx hb hts hinX3 hown hK hP 0 rfl rfl 8 (by decide) (hts (.fieldLink RX3 32 "TroubleCodesModel" "code" "[I") (mem_at 3 rfl)) (fun _ h9 => h9) rfl dX3_wasGood_63 ?_
        refine lv_iload_n hx hb dX3_wasGood_66 rfl (lv_at hl 1 rfl) ?_
        refine lv_iconst (v := 3) hx hb dX3_wasGood_67 (by decide) ?_
        refine x_iast (k := k) (f := g 8) (x := 3) hx hb hK hP hD hS 8 rfl (by omega) (by decide) dX3_wasGood_68 (fun H locs hP hD hS => ?_)
        have hP : va_P D vwCl (mW cI cZ q o (va_up (va_up (va_up g 8 (upd (g 8) k 3)) 9 (upd (g 9) k 0)) 10 (upd (g 10) k ((g 10 k) + 1)))) H := hP
        have hD : va_D A (mW cI cZ q o (va_up (va_up (va_up g 8 (upd (g 8) k 3)) 9 (upd (g 9) k 0)) 10 (upd (g 10) k ((g 10 k) + 1)))) := hD
        refine lv_aload_n hx hb dX3_wasGood_69 rfl (lv_at hl 0 rfl) ?_
        refine va_get (D := D) (ci := 3) (v := .ref (q 11)) (C := RX3) (T := TX3) (N := 33) hx hb hts hinX3 hown hK hP 0 rfl rfl 11 (by decide) (hts (.fieldLink RX3 41 "TroubleCodesModel" "age" "[I") (mem_at 5 rfl)) (fun _ h9 => h9) rfl dX3_wasGood_70 ?_
        refine lv_iload_n hx hb dX3_wasGood_73 rfl (lv_at hl 1 rfl) ?_
        refine lv_iconst (v := 0) hx hb dX3_wasGood_74 (by decide) ?_
        refine x_iast (k := k) (f := g 11) (x := 0) hx hb hK hP hD hS 11 rfl (by omega) (by decide) dX3_wasGood_75 (fun H locs hP hD hS => ?_)
        have hP : va_P D vwCl (mW cI cZ q o (va_up (va_up (va_up (va_up g 8 (upd (g 8) k 3)) 9 (upd (g 9) k 0)) 10 (upd (g 10) k ((g 10 k) + 1))) 11 (upd (g 11) k 0))) H := hP
        have hD : va_D A (mW cI cZ q o (va_up (va_up (va_up (va_up g 8 (upd (g 8) k 3)) 9 (upd (g 9) k 0)) 10 (upd (g 10) k ((g 10 k) + 1))) 11 (upd (g 11) k 0))) := hD
        have es : fX3_wasGood g k = va_up (va_up (va_up (va_up g 8 (upd (g 8) k 3)) 9 (upd (g 9) k 0)) 10 (upd (g 10) k ((g 10 k) + 1))) 11 (upd (g 11) k 0) := by rw [fX3_wasGood]; rw [if_neg c_1, if_pos c_2, if_neg c_3]
        exact hret 76 _ _ _ (by rw [es]; exact hP) (by rw [es]; exact hD) hS dX3_wasGood_76
  · refine lv_aload_n hx hb dX3_wasGood_27 rfl (lv_at hl 0 rfl) ?_
    refine va_get (D := D) (ci := 3) (v := .ref (q 8)) (C := RX3) (T := TX3) (N := 33) hx hb hts hinX3 hown hK hP 0 rfl rfl 8 (by decide) (hts (.fieldLink RX3 32 "TroubleCodesModel" "code" "[I") (mem_at 3 rfl)) (fun _ h9 => h9) rfl dX3_wasGood_28 ?_
    refine lv_iload_n hx hb dX3_wasGood_31 rfl (lv_at hl 1 rfl) ?_
    refine lv_iconst (v := 0) hx hb dX3_wasGood_32 (by decide) ?_
    refine x_iast (k := k) (f := g 8) (x := 0) hx hb hK hP hD hS 8 rfl (by omega) (by decide) dX3_wasGood_33 (fun H locs hP hD hS => ?_)
    have hP : va_P D vwCl (mW cI cZ q o (va_up (va_up (va_up g 8 (upd (g 8) k 0)) 9 (upd (g 9) k 0)) 10 (upd (g 10) k ((g 10 k) + 1)))) H := hP
    have hD : va_D A (mW cI cZ q o (va_up (va_up (va_up g 8 (upd (g 8) k 0)) 9 (upd (g 9) k 0)) 10 (upd (g 10) k ((g 10 k) + 1)))) := hD
    refine lv_goto (tgt := 76) hx hb dX3_wasGood_34 (by decide) ?_
    have es : fX3_wasGood g k = va_up (va_up (va_up g 8 (upd (g 8) k 0)) 9 (upd (g 9) k 0)) 10 (upd (g 10) k ((g 10 k) + 1)) := by rw [fX3_wasGood]; rw [if_pos c_1]
    exact hret 76 _ _ _ (by rw [es]; exact hP) (by rw [es]; exact hD) hS dX3_wasGood_76

def fX3_ages (g : Nat → Nat → Int32) (k : Nat) : Nat → Nat → Int32 := if ((g 11 k) + 1) < (if (g 1 k) = 1 then (2 * (g 5 k)) else (g 5 k)) then (va_up g 11 (upd (g 11) k ((g 11 k) + 1))) else (va_up (va_up (va_up g 8 (upd (g 8) k 0)) 11 (upd (g 11) k ((g 11 k) + 1))) 21 (upd (g 21) k 0))
set_option maxHeartbeats 4000000 in
set_option maxRecDepth 100000 in
theorem tX3_ages (l : Launch) (D : va_G) (cI cZ cC : ClassId) (q : Nat → Nat) (o : Nat) (g : Nat → Nat → Int32) (k : Nat) (hk : k < 16) : WrV l yX3_ages wsX3_ages (rmK 0) D cI cZ cC [.ref o, .int (nI k)] (mW cI cZ q o g) (mW cI cZ q o (fX3_ages g k)) := by
  refine WrV.of (cc := cX3_ages) (maxL := 2) (by decide) rfl (Nat.le_of_ble_eq_true rfl) ?_
  intro p e s m args below meth c Q A ls hx hb hml hts hown hK hP hD hS hA hret hl
  have hl : lv_has ls 2 [(0, .ref o), (1, .int (nI k))] := hl
  have hinX3 : ∀ w ∈ u_ws RX3 TX3 33, w ∈ wsX3_ages := (fun w h => List.mem_cons_of_mem _ (List.mem_append_right _ h))
  refine lv_aload_n hx hb dX3_ages_0 rfl (lv_at hl 0 rfl) ?_
  refine va_get (D := D) (ci := 3) (v := .ref (q 11)) (C := RX3) (T := TX3) (N := 33) hx hb hts hinX3 hown hK hP 0 rfl rfl 11 (by decide) (hts (.fieldLink RX3 41 "TroubleCodesModel" "age" "[I") (mem_at 1 rfl)) (fun _ h9 => h9) rfl dX3_ages_1 ?_
  refine lv_iload_n hx hb dX3_ages_4 rfl (lv_at hl 1 rfl) ?_
  refine lv_dup2_11 hx hb dX3_ages_5 rfl rfl ?_
  refine x_iald (k := k) (f := g 11) hx hb hK hP 11 rfl (by omega) (by decide) dX3_ages_6 ?_
  refine lv_iconst (v := 1) hx hb dX3_ages_7 (by decide) ?_
  refine lv_iadd hx hb dX3_ages_8 ?_
  refine x_iast (k := k) (f := g 11) (x := (g 11 k) + 1) hx hb hK hP hD hS 11 rfl (by omega) (by decide) dX3_ages_9 (fun H locs hP hD hS => ?_)
  have hP : va_P D vwCl (mW cI cZ q o (va_up g 11 (upd (g 11) k ((g 11 k) + 1)))) H := hP
  have hD : va_D A (mW cI cZ q o (va_up g 11 (upd (g 11) k ((g 11 k) + 1)))) := hD
  refine lv_aload_n hx hb dX3_ages_10 rfl (lv_at hl 0 rfl) ?_
  refine va_get (D := D) (ci := 3) (v := .ref (q 11)) (C := RX3) (T := TX3) (N := 33) hx hb hts hinX3 hown hK hP 0 rfl rfl 11 (by decide) (hts (.fieldLink RX3 41 "TroubleCodesModel" "age" "[I") (mem_at 1 rfl)) (fun _ h9 => h9) rfl dX3_ages_11 ?_
  refine lv_iload_n hx hb dX3_ages_14 rfl (lv_at hl 1 rfl) ?_
  refine x_iald (k := k) (f := upd (g 11) k ((g 11 k) + 1)) hx hb hK hP 11 rfl (by omega) (by decide) dX3_ages_15 ?_
  rw [pk_us]
  refine lv_aload_n hx hb dX3_ages_16 rfl (lv_at hl 0 rfl) ?_
  refine va_get (D := D) (ci := 3) (v := .ref (q 1)) (C := RX3) (T := TX3) (N := 33) hx hb hts hinX3 hown hK hP 0 rfl rfl 1 (by decide) (hts (.fieldLink RX3 7 "TroubleCodesModel" "sort" "[I") (mem_at 2 rfl)) (fun _ h9 => h9) rfl dX3_ages_17 ?_
  refine lv_iload_n hx hb dX3_ages_20 rfl (lv_at hl 1 rfl) ?_
  refine x_iald (k := k) (f := g 1) hx hb hK hP 1 rfl (by omega) (by decide) dX3_ages_21 ?_
  refine lv_iconst (v := 1) hx hb dX3_ages_22 (by decide) ?_
  have J43_0 : W p l e (rmK 0) s m args below meth c H locs 0 0 Q (F0 m 43 ls [.int (if (g 1 k) = 1 then (2 * (g 5 k)) else (g 5 k)), .int ((g 11 k) + 1)]) := by
    refine lv_icmp_lt (tgt := 60) hx hb dX3_ages_43 (by decide) (fun c_2 => ?_) (fun c_2 => ?_)
    · have es : fX3_ages g k = va_up g 11 (upd (g 11) k ((g 11 k) + 1)) := by rw [fX3_ages]; rw [if_pos c_2]
      exact hret 60 _ _ _ (by rw [es]; exact hP) (by rw [es]; exact hD) hS dX3_ages_60
    · refine lv_aload_n hx hb dX3_ages_46 rfl (lv_at hl 0 rfl) ?_
      refine va_get (D := D) (ci := 3) (v := .ref (q 8)) (C := RX3) (T := TX3) (N := 33) hx hb hts hinX3 hown hK hP 0 rfl rfl 8 (by decide) (hts (.fieldLink RX3 32 "TroubleCodesModel" "code" "[I") (mem_at 4 rfl)) (fun _ h9 => h9) rfl dX3_ages_47 ?_
      refine lv_iload_n hx hb dX3_ages_50 rfl (lv_at hl 1 rfl) ?_
      refine lv_iconst (v := 0) hx hb dX3_ages_51 (by decide) ?_
      refine x_iast (k := k) (f := g 8) (x := 0) hx hb hK hP hD hS 8 rfl (by omega) (by decide) dX3_ages_52 (fun H locs hP hD hS => ?_)
      have hP : va_P D vwCl (mW cI cZ q o (va_up (va_up g 8 (upd (g 8) k 0)) 11 (upd (g 11) k ((g 11 k) + 1)))) H := hP
      have hD : va_D A (mW cI cZ q o (va_up (va_up g 8 (upd (g 8) k 0)) 11 (upd (g 11) k ((g 11 k) + 1)))) := hD
      refine lv_aload_n hx hb dX3_ages_53 rfl (lv_at hl 0 rfl) ?_
      refine va_get (D := D) (ci := 3) (v := .ref (q 21)) (C := RX3) (T := TX3) (N := 33) hx hb hts hinX3 hown hK hP 0 rfl rfl 21 (by decide) (hts (.fieldLink RX3 66 "TroubleCodesModel" "isFrozen" "[Z") (mem_at 5 rfl)) (fun _ h9 => h9) rfl dX3_ages_54 ?_
      refine lv_iload_n hx hb dX3_ages_57 rfl (lv_at hl 1 rfl) ?_
      refine lv_iconst (v := 0) hx hb dX3_ages_58 (by decide) ?_
      refine x_zast (k := k) (f := g 21) (x := 0) hx hb hK hP hD hS 18 rfl (by decide) (by omega) (by decide) dX3_ages_59 (fun H locs hP hD hS => ?_)
      have hP : va_P D vwCl (mW cI cZ q o (va_up (va_up (va_up g 8 (upd (g 8) k 0)) 11 (upd (g 11) k ((g 11 k) + 1))) 21 (upd (g 21) k 0))) H := hP
      have hD : va_D A (mW cI cZ q o (va_up (va_up (va_up g 8 (upd (g 8) k 0)) 11 (upd (g 11) k ((g 11 k) + 1))) 21 (upd (g 21) k 0))) := hD
      have es : fX3_ages g k = va_up (va_up (va_up g 8 (upd (g 8) k 0)) 11 (upd (g 11) k ((g 11 k) + 1))) 21 (upd (g 21) k 0) := by rw [fX3_ages]; rw [if_neg c_2]
      exact hret 60 _ _ _ (by rw [es]; exact hP) (by rw [es]; exact hD) hS dX3_ages_60
  refine lv_icmp_ne (tgt := 37) hx hb dX3_ages_23 (by decide) (fun c_3 => ?_) (fun c_3 => ?_)
  · refine lv_aload_n hx hb dX3_ages_37 rfl (lv_at hl 0 rfl) ?_
    refine va_get (D := D) (ci := 3) (v := .ref (q 5)) (C := RX3) (T := TX3) (N := 33) hx hb hts hinX3 hown hK hP 0 rfl rfl 5 (by decide) (hts (.fieldLink RX3 22 "TroubleCodesModel" "ageAt" "[I") (mem_at 3 rfl)) (fun _ h9 => h9) rfl dX3_ages_38 ?_
    refine lv_iload_n hx hb dX3_ages_41 rfl (lv_at hl 1 rfl) ?_
    refine x_iald (k := k) (f := g 5) hx hb hK hP 5 rfl (by omega) (by decide) dX3_ages_42 ?_
    rw [if_neg c_3] at J43_0
    exact J43_0
  · refine lv_iconst (v := 2) hx hb dX3_ages_26 (by decide) ?_
    refine lv_aload_n hx hb dX3_ages_27 rfl (lv_at hl 0 rfl) ?_
    refine va_get (D := D) (ci := 3) (v := .ref (q 5)) (C := RX3) (T := TX3) (N := 33) hx hb hts hinX3 hown hK hP 0 rfl rfl 5 (by decide) (hts (.fieldLink RX3 22 "TroubleCodesModel" "ageAt" "[I") (mem_at 3 rfl)) (fun _ h9 => h9) rfl dX3_ages_28 ?_
    refine lv_iload_n hx hb dX3_ages_31 rfl (lv_at hl 1 rfl) ?_
    refine x_iald (k := k) (f := g 5) hx hb hK hP 5 rfl (by omega) (by decide) dX3_ages_32 ?_
    refine lv_imul hx hb dX3_ages_33 ?_
    refine lv_goto (tgt := 43) hx hb dX3_ages_34 (by decide) ?_
    rw [if_pos c_3] at J43_0
    exact J43_0

def heldF (so fo co : Nat → Int32) (k : Nat) : Int32 := if so k = 2 then (if co (ix (fo k)) = 1 then 1 else (if co (ix (fo k)) = 2 then 1 else 0)) else 0

set_option maxHeartbeats 4000000 in
set_option maxRecDepth 100000 in
theorem tX3_isHeld (l : Launch) (D : va_G) (cI cZ cC : ClassId) (q : Nat → Nat) (o : Nat) (g : Nat → Nat → Int32) (k : Nat) (hk : k < 16) (hfo : g 1 k = 2 → ∃ f, f < 16 ∧ g 2 k = nI f) : RdC l yX3_isHeld wsX3_isHeld (rmK 0) D cI cZ cC [.ref o, .int (nI k)] (fun H => va_P D vwCl (mW cI cZ q o g) H) (fun ans => ans = heldF (g 1) (g 2) (g 8) k) := by
  refine RdC.of (cc := cX3_isHeld) (maxL := 2) (ret := .boolean) (by decide) rfl (Nat.le_of_ble_eq_true rfl) ?_
  intro p e s m args below meth c Q ls hx hb hml hts hown hK hP hret hl
  have hl : lv_has ls 2 [(0, .ref o), (1, .int (nI k))] := hl
  have hP : va_P D vwCl (mW cI cZ q o g) s.heap := hP
  have hinX3 : ∀ w ∈ u_ws RX3 TX3 33, w ∈ wsX3_isHeld := (fun w h => List.mem_cons_of_mem _ (List.mem_append_right _ h))
  refine lv_aload_n hx hb dX3_isHeld_0 rfl (lv_at hl 0 rfl) ?_
  refine va_get (D := D) (ci := 3) (v := .ref (q 1)) (C := RX3) (T := TX3) (N := 33) hx hb hts hinX3 hown hK hP 0 rfl rfl 1 (by decide) (hts (.fieldLink RX3 7 "TroubleCodesModel" "sort" "[I") (mem_at 1 rfl)) (fun _ h9 => h9) rfl dX3_isHeld_1 ?_
  refine lv_iload_n hx hb dX3_isHeld_4 rfl (lv_at hl 1 rfl) ?_
  refine x_iald (k := k) (f := g 1) hx hb hK hP 1 rfl (by omega) (by decide) dX3_isHeld_5 ?_
  refine lv_iconst (v := 2) hx hb dX3_isHeld_6 (by decide) ?_
  refine lv_icmp_ne (tgt := 44) hx hb dX3_isHeld_7 (by decide) (fun c_1 => ?_) (fun c_1 => ?_)
  · refine lv_iconst (v := 0) hx hb dX3_isHeld_44 (by decide) ?_
    exact hret 45 _ _ (by rw [heldF]; rw [if_neg c_1]) rfl dX3_isHeld_45
  · obtain ⟨f, hf16, ef⟩ := hfo c_1
    refine lv_aload_n hx hb dX3_isHeld_10 rfl (lv_at hl 0 rfl) ?_
    refine va_get (D := D) (ci := 3) (v := .ref (q 8)) (C := RX3) (T := TX3) (N := 33) hx hb hts hinX3 hown hK hP 0 rfl rfl 8 (by decide) (hts (.fieldLink RX3 32 "TroubleCodesModel" "code" "[I") (mem_at 2 rfl)) (fun _ h9 => h9) rfl dX3_isHeld_11 ?_
    refine lv_aload_n hx hb dX3_isHeld_14 rfl (lv_at hl 0 rfl) ?_
    refine va_get (D := D) (ci := 3) (v := .ref (q 2)) (C := RX3) (T := TX3) (N := 33) hx hb hts hinX3 hown hK hP 0 rfl rfl 2 (by decide) (hts (.fieldLink RX3 13 "TroubleCodesModel" "follows" "[I") (mem_at 3 rfl)) (fun _ h9 => h9) rfl dX3_isHeld_15 ?_
    refine lv_iload_n hx hb dX3_isHeld_18 rfl (lv_at hl 1 rfl) ?_
    refine x_iald (k := k) (f := g 2) hx hb hK hP 2 rfl (by omega) (by decide) dX3_isHeld_19 ?_
    rw [ef]
    refine x_iald (k := f) (f := g 8) hx hb hK hP 8 rfl (by omega) (by decide) dX3_isHeld_20 ?_
    refine lv_iconst (v := 1) hx hb dX3_isHeld_21 (by decide) ?_
    refine lv_icmp_eq (tgt := 40) hx hb dX3_isHeld_22 (by decide) (fun c_2 => ?_) (fun c_2 => ?_)
    · refine lv_iconst (v := 1) hx hb dX3_isHeld_40 (by decide) ?_
      refine lv_goto (tgt := 45) hx hb dX3_isHeld_41 (by decide) ?_
      exact hret 45 _ _ (by rw [heldF]; simp only [ef, ix_nI (show f < 2 ^ 31 by omega)]; rw [if_pos c_1, if_pos c_2]) rfl dX3_isHeld_45
    · refine lv_aload_n hx hb dX3_isHeld_25 rfl (lv_at hl 0 rfl) ?_
      refine va_get (D := D) (ci := 3) (v := .ref (q 8)) (C := RX3) (T := TX3) (N := 33) hx hb hts hinX3 hown hK hP 0 rfl rfl 8 (by decide) (hts (.fieldLink RX3 32 "TroubleCodesModel" "code" "[I") (mem_at 2 rfl)) (fun _ h9 => h9) rfl dX3_isHeld_26 ?_
      refine lv_aload_n hx hb dX3_isHeld_29 rfl (lv_at hl 0 rfl) ?_
      refine va_get (D := D) (ci := 3) (v := .ref (q 2)) (C := RX3) (T := TX3) (N := 33) hx hb hts hinX3 hown hK hP 0 rfl rfl 2 (by decide) (hts (.fieldLink RX3 13 "TroubleCodesModel" "follows" "[I") (mem_at 3 rfl)) (fun _ h9 => h9) rfl dX3_isHeld_30 ?_
      refine lv_iload_n hx hb dX3_isHeld_33 rfl (lv_at hl 1 rfl) ?_
      refine x_iald (k := k) (f := g 2) hx hb hK hP 2 rfl (by omega) (by decide) dX3_isHeld_34 ?_
      rw [ef]
      refine x_iald (k := f) (f := g 8) hx hb hK hP 8 rfl (by omega) (by decide) dX3_isHeld_35 ?_
      refine lv_iconst (v := 2) hx hb dX3_isHeld_36 (by decide) ?_
      refine lv_icmp_ne (tgt := 44) hx hb dX3_isHeld_37 (by decide) (fun c_3 => ?_) (fun c_3 => ?_)
      · refine lv_iconst (v := 0) hx hb dX3_isHeld_44 (by decide) ?_
        exact hret 45 _ _ (by rw [heldF]; simp only [ef, ix_nI (show f < 2 ^ 31 by omega)]; rw [if_pos c_1, if_neg c_2, if_neg c_3]) rfl dX3_isHeld_45
      · refine lv_iconst (v := 1) hx hb dX3_isHeld_40 (by decide) ?_
        refine lv_goto (tgt := 45) hx hb dX3_isHeld_41 (by decide) ?_
        exact hret 45 _ _ (by rw [heldF]; simp only [ef, ix_nI (show f < 2 ^ 31 by omega)]; rw [if_pos c_1, if_neg c_2, if_pos c_3]) rfl dX3_isHeld_45

set_option maxHeartbeats 4000000 in
set_option maxRecDepth 100000 in
theorem tX3_manyFrozen (l : Launch) (D : va_G) (cI cZ cC : ClassId) (q : Nat → Nat) (o : Nat) (g : Nat → Nat → Int32) (n : Nat) (hn : g 0 0 = nI n) (hnb : n ≤ 16) : RdC l yX3_manyFrozen wsX3_manyFrozen (rmK 0) D cI cZ cC [.ref o] (fun H => va_P D vwCl (mW cI cZ q o g) H) (fun ans => ans = sumN (fun j => if g 21 j = 0 then 0 else 1) n) := by
  refine RdC.of (cc := cX3_manyFrozen) (maxL := 3) (ret := .int) (by decide) rfl (Nat.le_of_ble_eq_true rfl) ?_
  intro p e s m args below meth c Q ls hx hb hml hts hown hK hP hret hl
  have hl : lv_has ls 3 [(0, .ref o)] := hl
  have hP : va_P D vwCl (mW cI cZ q o g) s.heap := hP
  have hinX3 : ∀ w ∈ u_ws RX3 TX3 33, w ∈ wsX3_manyFrozen := (fun w h => List.mem_cons_of_mem _ (List.mem_append_right _ h))
  refine lv_iconst (v := 0) hx hb dX3_manyFrozen_0 (by decide) ?_
  refine lv_istore_n (lv' := [(1, .int 0), (0, .ref o)]) hx hb dX3_manyFrozen_1 rfl hl (by decide) rfl (fun ls hl => ?_)
  refine lv_iconst (v := 0) hx hb dX3_manyFrozen_2 (by decide) ?_
  refine lv_istore_n (lv' := [(2, .int 0), (1, .int 0), (0, .ref o)]) hx hb dX3_manyFrozen_3 rfl hl (by decide) rfl (fun ls hl => ?_)
  have LOOP_1 : ∀ (fu k : Nat), k ≤ n → n - k < fu → ∀ (ls : Array Slot), lv_has ls 3 [(0, .ref o), (1, .int (sumN (fun j => if g 21 j = 0 then 0 else 1) k)), (2, .int (nI k))] → W p l e (rmK 0) s m args below meth c s.heap [] 0 0 Q (F0 m 4 ls []) := by
    intro fu
    induction fu with
    | zero => intro k h1 h2; exact absurd h2 (Nat.not_lt_zero _)
    | succ fu ih =>
      intro k hkn hfu  ls hl
      refine lv_iload_n hx hb dX3_manyFrozen_4 rfl (lv_at hl 2 rfl) ?_
      refine lv_aload_n hx hb dX3_manyFrozen_5 rfl (lv_at hl 0 rfl) ?_
      refine va_get (D := D) (ci := 3) (v := .int (g 0 0)) (C := RX3) (T := TX3) (N := 33) hx hb hts hinX3 hown hK hP 0 rfl rfl 0 (by decide) (hts (.fieldLink RX3 93 "TroubleCodesModel" "checks" "I") (mem_at 1 rfl)) (fun _ h9 => h9) rfl dX3_manyFrozen_6 ?_
      refine lv_icmp_ge (tgt := 35) hx hb dX3_manyFrozen_9 (by decide) (fun c_2 => ?_) (fun c_2 => ?_)
      · have ekn : n = k := Nat.le_antisymm (kx_ge hn (by omega) (by omega) c_2) hkn
        subst ekn
        refine lv_iload_n hx hb dX3_manyFrozen_35 rfl (lv_at hl 1 rfl) ?_
        exact hret 36 _ _ (rfl) rfl dX3_manyFrozen_36
      · have hkl : k < n := kx_lt hn (by omega) (by omega) c_2
        refine lv_iload_n hx hb dX3_manyFrozen_12 rfl (lv_at hl 1 rfl) ?_
        refine lv_aload_n hx hb dX3_manyFrozen_13 rfl (lv_at hl 0 rfl) ?_
        refine va_get (D := D) (ci := 3) (v := .ref (q 21)) (C := RX3) (T := TX3) (N := 33) hx hb hts hinX3 hown hK hP 0 rfl rfl 21 (by decide) (hts (.fieldLink RX3 66 "TroubleCodesModel" "isFrozen" "[Z") (mem_at 2 rfl)) (fun _ h9 => h9) rfl dX3_manyFrozen_14 ?_
        refine lv_iload_n hx hb dX3_manyFrozen_17 rfl (lv_at hl 2 rfl) ?_
        refine x_zald (k := k) (f := g 21) hx hb hK hP 18 rfl (by omega) (by decide) dX3_manyFrozen_18 ?_
        refine lv_if_eq (tgt := 26) hx hb dX3_manyFrozen_19 (by decide) (fun c_3 => ?_) (fun c_3 => ?_)
        · refine lv_iconst (v := 0) hx hb dX3_manyFrozen_26 (by decide) ?_
          refine lv_iadd hx hb dX3_manyFrozen_27 ?_
          refine lv_istore_n (lv' := [(1, .int ((sumN (fun j => if g 21 j = 0 then 0 else 1) k) + 0)), (0, .ref o), (2, .int (nI k))]) hx hb dX3_manyFrozen_28 rfl hl (by decide) rfl (fun ls hl => ?_)
          refine lv_iinc (v := nI (k + 1)) (lv' := [(2, .int (nI (k + 1))), (1, .int ((sumN (fun j => if g 21 j = 0 then 0 else 1) k) + 0)), (0, .ref o)]) hx hb dX3_manyFrozen_29 hl (k := 2) rfl (nI_1 _) (by decide) rfl (fun ls hl => ?_)
          refine lv_goto (tgt := 4) hx hb dX3_manyFrozen_32 (by decide) ?_
          have q_4 : (sumN (fun j => if g 21 j = 0 then 0 else 1) (k + 1) : Int32) = (sumN (fun j => if g 21 j = 0 then 0 else 1) k) + 0 := by first | rfl | simp [sumN, c_2, Int32.not_le.mp c_2, c_3]
          exact ih (k + 1) (by omega) (by omega) ls (by rw [q_4]; exact lv_sub hl [2, 1, 0] rfl)
        · refine lv_iconst (v := 1) hx hb dX3_manyFrozen_22 (by decide) ?_
          refine lv_goto (tgt := 27) hx hb dX3_manyFrozen_23 (by decide) ?_
          refine lv_iadd hx hb dX3_manyFrozen_27 ?_
          refine lv_istore_n (lv' := [(1, .int ((sumN (fun j => if g 21 j = 0 then 0 else 1) k) + 1)), (0, .ref o), (2, .int (nI k))]) hx hb dX3_manyFrozen_28 rfl hl (by decide) rfl (fun ls hl => ?_)
          refine lv_iinc (v := nI (k + 1)) (lv' := [(2, .int (nI (k + 1))), (1, .int ((sumN (fun j => if g 21 j = 0 then 0 else 1) k) + 1)), (0, .ref o)]) hx hb dX3_manyFrozen_29 hl (k := 2) rfl (nI_1 _) (by decide) rfl (fun ls hl => ?_)
          refine lv_goto (tgt := 4) hx hb dX3_manyFrozen_32 (by decide) ?_
          have q_5 : (sumN (fun j => if g 21 j = 0 then 0 else 1) (k + 1) : Int32) = (sumN (fun j => if g 21 j = 0 then 0 else 1) k) + 1 := by first | rfl | simp [sumN, c_2, Int32.not_le.mp c_2, c_3]
          exact ih (k + 1) (by omega) (by omega) ls (by rw [q_5]; exact lv_sub hl [2, 1, 0] rfl)
  have q_6 : (sumN (fun j => if g 21 j = 0 then 0 else 1) 0 : Int32) = 0 := by rfl
  have q_7 : (nI 0 : Int32) = 0 := by rfl
  exact LOOP_1 (n - 0 + 1) 0 (Nat.zero_le _) (Nat.lt_succ_self _) ls (by rw [q_6, q_7]; exact lv_sub hl [2, 1, 0] rfl)

set_option maxHeartbeats 4000000 in
set_option maxRecDepth 100000 in
theorem tX3_manyOf (l : Launch) (D : va_G) (cI cZ cC : ClassId) (q : Nat → Nat) (o : Nat) (g : Nat → Nat → Int32) (n : Nat) (hn : g 0 0 = nI n) (hnb : n ≤ 16) (w : Int32) : RdC l yX3_manyOf wsX3_manyOf (rmK 0) D cI cZ cC [.ref o, .int w] (fun H => va_P D vwCl (mW cI cZ q o g) H) (fun ans => ans = sumN (fun j => if g 8 j = w then 1 else 0) n) := by
  refine RdC.of (cc := cX3_manyOf) (maxL := 4) (ret := .int) (by decide) rfl (Nat.le_of_ble_eq_true rfl) ?_
  intro p e s m args below meth c Q ls hx hb hml hts hown hK hP hret hl
  have hl : lv_has ls 4 [(0, .ref o), (1, .int w)] := hl
  have hP : va_P D vwCl (mW cI cZ q o g) s.heap := hP
  have hinX3 : ∀ w ∈ u_ws RX3 TX3 33, w ∈ wsX3_manyOf := (fun w h => List.mem_cons_of_mem _ (List.mem_append_right _ h))
  refine lv_iconst (v := 0) hx hb dX3_manyOf_0 (by decide) ?_
  refine lv_istore_n (lv' := [(2, .int 0), (0, .ref o), (1, .int w)]) hx hb dX3_manyOf_1 rfl hl (by decide) rfl (fun ls hl => ?_)
  refine lv_iconst (v := 0) hx hb dX3_manyOf_2 (by decide) ?_
  refine lv_istore_n (lv' := [(3, .int 0), (2, .int 0), (0, .ref o), (1, .int w)]) hx hb dX3_manyOf_3 rfl hl (by decide) rfl (fun ls hl => ?_)
  have LOOP_1 : ∀ (fu k : Nat), k ≤ n → n - k < fu → ∀ (ls : Array Slot), lv_has ls 4 [(0, .ref o), (1, .int w), (2, .int (sumN (fun j => if g 8 j = w then 1 else 0) k)), (3, .int (nI k))] → W p l e (rmK 0) s m args below meth c s.heap [] 0 0 Q (F0 m 4 ls []) := by
    intro fu
    induction fu with
    | zero => intro k h1 h2; exact absurd h2 (Nat.not_lt_zero _)
    | succ fu ih =>
      intro k hkn hfu  ls hl
      refine lv_iload_n hx hb dX3_manyOf_4 rfl (lv_at hl 3 rfl) ?_
      refine lv_aload_n hx hb dX3_manyOf_5 rfl (lv_at hl 0 rfl) ?_
      refine va_get (D := D) (ci := 3) (v := .int (g 0 0)) (C := RX3) (T := TX3) (N := 33) hx hb hts hinX3 hown hK hP 0 rfl rfl 0 (by decide) (hts (.fieldLink RX3 93 "TroubleCodesModel" "checks" "I") (mem_at 1 rfl)) (fun _ h9 => h9) rfl dX3_manyOf_6 ?_
      refine lv_icmp_ge (tgt := 36) hx hb dX3_manyOf_9 (by decide) (fun c_2 => ?_) (fun c_2 => ?_)
      · have ekn : n = k := Nat.le_antisymm (kx_ge hn (by omega) (by omega) c_2) hkn
        subst ekn
        refine lv_iload_n hx hb dX3_manyOf_36 rfl (lv_at hl 2 rfl) ?_
        exact hret 37 _ _ (rfl) rfl dX3_manyOf_37
      · have hkl : k < n := kx_lt hn (by omega) (by omega) c_2
        refine lv_iload_n hx hb dX3_manyOf_12 rfl (lv_at hl 2 rfl) ?_
        refine lv_aload_n hx hb dX3_manyOf_13 rfl (lv_at hl 0 rfl) ?_
        refine va_get (D := D) (ci := 3) (v := .ref (q 8)) (C := RX3) (T := TX3) (N := 33) hx hb hts hinX3 hown hK hP 0 rfl rfl 8 (by decide) (hts (.fieldLink RX3 32 "TroubleCodesModel" "code" "[I") (mem_at 2 rfl)) (fun _ h9 => h9) rfl dX3_manyOf_14 ?_
        refine lv_iload_n hx hb dX3_manyOf_17 rfl (lv_at hl 3 rfl) ?_
        refine x_iald (k := k) (f := g 8) hx hb hK hP 8 rfl (by omega) (by decide) dX3_manyOf_18 ?_
        refine lv_iload_n hx hb dX3_manyOf_19 rfl (lv_at hl 1 rfl) ?_
        refine lv_icmp_ne (tgt := 27) hx hb dX3_manyOf_20 (by decide) (fun c_3 => ?_) (fun c_3 => ?_)
        · refine lv_iconst (v := 0) hx hb dX3_manyOf_27 (by decide) ?_
          refine lv_iadd hx hb dX3_manyOf_28 ?_
          refine lv_istore_n (lv' := [(2, .int ((sumN (fun j => if g 8 j = w then 1 else 0) k) + 0)), (0, .ref o), (1, .int w), (3, .int (nI k))]) hx hb dX3_manyOf_29 rfl hl (by decide) rfl (fun ls hl => ?_)
          refine lv_iinc (v := nI (k + 1)) (lv' := [(3, .int (nI (k + 1))), (2, .int ((sumN (fun j => if g 8 j = w then 1 else 0) k) + 0)), (0, .ref o), (1, .int w)]) hx hb dX3_manyOf_30 hl (k := 3) rfl (nI_1 _) (by decide) rfl (fun ls hl => ?_)
          refine lv_goto (tgt := 4) hx hb dX3_manyOf_33 (by decide) ?_
          have q_4 : (sumN (fun j => if g 8 j = w then 1 else 0) (k + 1) : Int32) = (sumN (fun j => if g 8 j = w then 1 else 0) k) + 0 := by first | rfl | simp [sumN, c_2, Int32.not_le.mp c_2, c_3]
          exact ih (k + 1) (by omega) (by omega) ls (by rw [q_4]; exact lv_sub hl [2, 3, 1, 0] rfl)
        · refine lv_iconst (v := 1) hx hb dX3_manyOf_23 (by decide) ?_
          refine lv_goto (tgt := 28) hx hb dX3_manyOf_24 (by decide) ?_
          refine lv_iadd hx hb dX3_manyOf_28 ?_
          refine lv_istore_n (lv' := [(2, .int ((sumN (fun j => if g 8 j = w then 1 else 0) k) + 1)), (0, .ref o), (1, .int w), (3, .int (nI k))]) hx hb dX3_manyOf_29 rfl hl (by decide) rfl (fun ls hl => ?_)
          refine lv_iinc (v := nI (k + 1)) (lv' := [(3, .int (nI (k + 1))), (2, .int ((sumN (fun j => if g 8 j = w then 1 else 0) k) + 1)), (0, .ref o), (1, .int w)]) hx hb dX3_manyOf_30 hl (k := 3) rfl (nI_1 _) (by decide) rfl (fun ls hl => ?_)
          refine lv_goto (tgt := 4) hx hb dX3_manyOf_33 (by decide) ?_
          have q_5 : (sumN (fun j => if g 8 j = w then 1 else 0) (k + 1) : Int32) = (sumN (fun j => if g 8 j = w then 1 else 0) k) + 1 := by first | rfl | simp [sumN, c_2, Int32.not_le.mp c_2, c_3]
          exact ih (k + 1) (by omega) (by omega) ls (by rw [q_5]; exact lv_sub hl [2, 3, 1, 0] rfl)
  have q_6 : (sumN (fun j => if g 8 j = w then 1 else 0) 0 : Int32) = 0 := by rfl
  have q_7 : (nI 0 : Int32) = 0 := by rfl
  exact LOOP_1 (n - 0 + 1) 0 (Nat.zero_le _) (Nat.lt_succ_self _) ls (by rw [q_6, q_7]; exact lv_sub hl [2, 3, 1, 0] rfl)

def lfF (fr so we tu : Nat → Int32) : Nat → Int32
  | 0 => -1
  | k + 1 => if ¬ fr k = 0 ∧ ¬ so k = 1 ∧ (lfF fr so we tu k = -1 ∨ we k < we (ix (lfF fr so we tu k)) ∨ (we k = we (ix (lfF fr so we tu k)) ∧ tu k < tu (ix (lfF fr so we tu k)))) then nI k else lfF fr so we tu k
theorem lf_cases (fr so we tu : Nat → Int32) : ∀ k : Nat, lfF fr so we tu k = -1 ∨ ∃ j, j < k ∧ lfF fr so we tu k = nI j ∧ ¬ fr j = 0 ∧ ¬ so j = 1
  | 0 => Or.inl rfl
  | k + 1 => by
    rw [lfF]
    split
    · rename_i h
      exact Or.inr ⟨k, Nat.lt_succ_self k, rfl, h.1, h.2.1⟩
    · rcases lf_cases fr so we tu k with h | ⟨j, hj, h⟩
      · exact Or.inl h
      · exact Or.inr ⟨j, Nat.lt_succ_of_lt hj, h⟩

set_option maxHeartbeats 4000000 in
set_option maxRecDepth 100000 in
theorem tX3_leastFrozen (l : Launch) (D : va_G) (cI cZ cC : ClassId) (q : Nat → Nat) (o : Nat) (g : Nat → Nat → Int32) (n : Nat) (hn : g 0 0 = nI n) (hnb : n ≤ 16) : RdC l yX3_leastFrozen wsX3_leastFrozen (rmK 0) D cI cZ cC [.ref o] (fun H => va_P D vwCl (mW cI cZ q o g) H) (fun ans => ans = lfF (g 21) (g 1) (g 6) (g 24) n) := by
  refine RdC.of (cc := cX3_leastFrozen) (maxL := 3) (ret := .int) (by decide) rfl (Nat.le_of_ble_eq_true rfl) ?_
  intro p e s m args below meth c Q ls hx hb hml hts hown hK hP hret hl
  have hl : lv_has ls 3 [(0, .ref o)] := hl
  have hP : va_P D vwCl (mW cI cZ q o g) s.heap := hP
  have hinX3 : ∀ w ∈ u_ws RX3 TX3 33, w ∈ wsX3_leastFrozen := (fun w h => List.mem_cons_of_mem _ (List.mem_append_right _ h))
  refine lv_iconst (v := (-1)) hx hb dX3_leastFrozen_0 (by decide) ?_
  refine lv_istore_n (lv' := [(1, .int (-1)), (0, .ref o)]) hx hb dX3_leastFrozen_1 rfl hl (by decide) rfl (fun ls hl => ?_)
  refine lv_iconst (v := 0) hx hb dX3_leastFrozen_2 (by decide) ?_
  refine lv_istore_n (lv' := [(2, .int 0), (1, .int (-1)), (0, .ref o)]) hx hb dX3_leastFrozen_3 rfl hl (by decide) rfl (fun ls hl => ?_)
  have LOOP_1 : ∀ (fu k : Nat), k ≤ n → n - k < fu → ∀ (ls : Array Slot), lv_has ls 3 [(0, .ref o), (1, .int (lfF (g 21) (g 1) (g 6) (g 24) k)), (2, .int (nI k))] → W p l e (rmK 0) s m args below meth c s.heap [] 0 0 Q (F0 m 4 ls []) := by
    intro fu
    induction fu with
    | zero => intro k h1 h2; exact absurd h2 (Nat.not_lt_zero _)
    | succ fu ih =>
      intro k hkn hfu  ls hl
      refine lv_iload_n hx hb dX3_leastFrozen_4 rfl (lv_at hl 2 rfl) ?_
      refine lv_aload_n hx hb dX3_leastFrozen_5 rfl (lv_at hl 0 rfl) ?_
      refine va_get (D := D) (ci := 3) (v := .int (g 0 0)) (C := RX3) (T := TX3) (N := 33) hx hb hts hinX3 hown hK hP 0 rfl rfl 0 (by decide) (hts (.fieldLink RX3 93 "TroubleCodesModel" "checks" "I") (mem_at 1 rfl)) (fun _ h9 => h9) rfl dX3_leastFrozen_6 ?_
      refine lv_icmp_ge (tgt := 89) hx hb dX3_leastFrozen_9 (by decide) (fun c_2 => ?_) (fun c_2 => ?_)
      · have ekn : n = k := Nat.le_antisymm (kx_ge hn (by omega) (by omega) c_2) hkn
        subst ekn
        refine lv_iload_n hx hb dX3_leastFrozen_89 rfl (lv_at hl 1 rfl) ?_
        exact hret 90 _ _ (rfl) rfl dX3_leastFrozen_90
      · have hkl : k < n := kx_lt hn (by omega) (by omega) c_2
        refine lv_aload_n hx hb dX3_leastFrozen_12 rfl (lv_at hl 0 rfl) ?_
        refine va_get (D := D) (ci := 3) (v := .ref (q 21)) (C := RX3) (T := TX3) (N := 33) hx hb hts hinX3 hown hK hP 0 rfl rfl 21 (by decide) (hts (.fieldLink RX3 66 "TroubleCodesModel" "isFrozen" "[Z") (mem_at 2 rfl)) (fun _ h9 => h9) rfl dX3_leastFrozen_13 ?_
        refine lv_iload_n hx hb dX3_leastFrozen_16 rfl (lv_at hl 2 rfl) ?_
        refine x_zald (k := k) (f := g 21) hx hb hK hP 18 rfl (by omega) (by decide) dX3_leastFrozen_17 ?_
        refine lv_if_eq (tgt := 83) hx hb dX3_leastFrozen_18 (by decide) (fun c_3 => ?_) (fun c_3 => ?_)
        · refine lv_iinc (v := nI (k + 1)) (lv' := [(2, .int (nI (k + 1))), (0, .ref o), (1, .int (lfF (g 21) (g 1) (g 6) (g 24) k))]) hx hb dX3_leastFrozen_83 hl (k := 2) rfl (nI_1 _) (by decide) rfl (fun ls hl => ?_)
          refine lv_goto (tgt := 4) hx hb dX3_leastFrozen_86 (by decide) ?_
          have q_4 : (lfF (g 21) (g 1) (g 6) (g 24) (k + 1) : Int32) = lfF (g 21) (g 1) (g 6) (g 24) k := by rw [lfF]; simp [c_2, Int32.not_le.mp c_2, c_3]
          exact ih (k + 1) (by omega) (by omega) ls (by rw [q_4]; exact lv_sub hl [1, 2, 0] rfl)
        · refine lv_aload_n hx hb dX3_leastFrozen_21 rfl (lv_at hl 0 rfl) ?_
          refine va_get (D := D) (ci := 3) (v := .ref (q 1)) (C := RX3) (T := TX3) (N := 33) hx hb hts hinX3 hown hK hP 0 rfl rfl 1 (by decide) (hts (.fieldLink RX3 7 "TroubleCodesModel" "sort" "[I") (mem_at 3 rfl)) (fun _ h9 => h9) rfl dX3_leastFrozen_22 ?_
          refine lv_iload_n hx hb dX3_leastFrozen_25 rfl (lv_at hl 2 rfl) ?_
          refine x_iald (k := k) (f := g 1) hx hb hK hP 1 rfl (by omega) (by decide) dX3_leastFrozen_26 ?_
          refine lv_iconst (v := 1) hx hb dX3_leastFrozen_27 (by decide) ?_
          refine lv_icmp_eq (tgt := 83) hx hb dX3_leastFrozen_28 (by decide) (fun c_5 => ?_) (fun c_5 => ?_)
          · refine lv_iinc (v := nI (k + 1)) (lv' := [(2, .int (nI (k + 1))), (0, .ref o), (1, .int (lfF (g 21) (g 1) (g 6) (g 24) k))]) hx hb dX3_leastFrozen_83 hl (k := 2) rfl (nI_1 _) (by decide) rfl (fun ls hl => ?_)
            refine lv_goto (tgt := 4) hx hb dX3_leastFrozen_86 (by decide) ?_
            have q_6 : (lfF (g 21) (g 1) (g 6) (g 24) (k + 1) : Int32) = lfF (g 21) (g 1) (g 6) (g 24) k := by rw [lfF]; simp [c_2, Int32.not_le.mp c_2, c_3, c_5]
            exact ih (k + 1) (by omega) (by omega) ls (by rw [q_6]; exact lv_sub hl [1, 2, 0] rfl)
          · refine lv_iload_n hx hb dX3_leastFrozen_31 rfl (lv_at hl 1 rfl) ?_
            refine lv_iconst (v := (-1)) hx hb dX3_leastFrozen_32 (by decide) ?_
            refine lv_icmp_eq (tgt := 81) hx hb dX3_leastFrozen_33 (by decide) (fun c_7 => ?_) (fun c_7 => ?_)
            · refine lv_iload_n hx hb dX3_leastFrozen_81 rfl (lv_at hl 2 rfl) ?_
              refine lv_istore_n (lv' := [(1, .int (nI k)), (0, .ref o), (2, .int (nI k))]) hx hb dX3_leastFrozen_82 rfl hl (by decide) rfl (fun ls hl => ?_)
              refine lv_iinc (v := nI (k + 1)) (lv' := [(2, .int (nI (k + 1))), (1, .int (nI k)), (0, .ref o)]) hx hb dX3_leastFrozen_83 hl (k := 2) rfl (nI_1 _) (by decide) rfl (fun ls hl => ?_)
              refine lv_goto (tgt := 4) hx hb dX3_leastFrozen_86 (by decide) ?_
              have q_8 : (lfF (g 21) (g 1) (g 6) (g 24) (k + 1) : Int32) = nI k := by rw [lfF]; simp [c_2, Int32.not_le.mp c_2, c_3, c_5, c_7]
              exact ih (k + 1) (by omega) (by omega) ls (by rw [q_8]; exact lv_sub hl [2, 1, 0] rfl)
            · obtain ⟨j, hj, ej, -⟩ := (lf_cases (g 21) (g 1) (g 6) (g 24) k).resolve_left c_7
              have eix : ix (lfF (g 21) (g 1) (g 6) (g 24) k) = j := by rw [ej]; exact ix_nI (by omega)
              refine lv_aload_n hx hb dX3_leastFrozen_36 rfl (lv_at hl 0 rfl) ?_
              refine va_get (D := D) (ci := 3) (v := .ref (q 6)) (C := RX3) (T := TX3) (N := 33) hx hb hts hinX3 hown hK hP 0 rfl rfl 6 (by decide) (hts (.fieldLink RX3 25 "TroubleCodesModel" "weight" "[I") (mem_at 4 rfl)) (fun _ h9 => h9) rfl dX3_leastFrozen_37 ?_
              refine lv_iload_n hx hb dX3_leastFrozen_40 rfl (lv_at hl 2 rfl) ?_
              refine x_iald (k := k) (f := g 6) hx hb hK hP 6 rfl (by omega) (by decide) dX3_leastFrozen_41 ?_
              refine lv_aload_n hx hb dX3_leastFrozen_42 rfl (lv_at hl 0 rfl) ?_
              refine va_get (D := D) (ci := 3) (v := .ref (q 6)) (C := RX3) (T := TX3) (N := 33) hx hb hts hinX3 hown hK hP 0 rfl rfl 6 (by decide) (hts (.fieldLink RX3 25 "TroubleCodesModel" "weight" "[I") (mem_at 4 rfl)) (fun _ h9 => h9) rfl dX3_leastFrozen_43 ?_
              refine lv_iload_n hx hb dX3_leastFrozen_46 rfl (lv_at hl 1 rfl) ?_
              rw [ej]
              refine x_iald (k := j) (f := g 6) hx hb hK hP 6 rfl (by omega) (by decide) dX3_leastFrozen_47 ?_
              refine lv_icmp_lt (tgt := 81) hx hb dX3_leastFrozen_48 (by decide) (fun c_9 => ?_) (fun c_9 => ?_)
              · refine lv_iload_n hx hb dX3_leastFrozen_81 rfl (lv_at hl 2 rfl) ?_
                refine lv_istore_n (lv' := [(1, .int (nI k)), (0, .ref o), (2, .int (nI k))]) hx hb dX3_leastFrozen_82 rfl hl (by decide) rfl (fun ls hl => ?_)
                refine lv_iinc (v := nI (k + 1)) (lv' := [(2, .int (nI (k + 1))), (1, .int (nI k)), (0, .ref o)]) hx hb dX3_leastFrozen_83 hl (k := 2) rfl (nI_1 _) (by decide) rfl (fun ls hl => ?_)
                refine lv_goto (tgt := 4) hx hb dX3_leastFrozen_86 (by decide) ?_
                have q_10 : (lfF (g 21) (g 1) (g 6) (g 24) (k + 1) : Int32) = nI k := by rw [lfF]; simp [c_2, Int32.not_le.mp c_2, c_3, c_5, c_7, c_9, eix]
                exact ih (k + 1) (by omega) (by omega) ls (by rw [q_10]; exact lv_sub hl [2, 1, 0] rfl)
              · refine lv_aload_n hx hb dX3_leastFrozen_51 rfl (lv_at hl 0 rfl) ?_
                refine va_get (D := D) (ci := 3) (v := .ref (q 6)) (C := RX3) (T := TX3) (N := 33) hx hb hts hinX3 hown hK hP 0 rfl rfl 6 (by decide) (hts (.fieldLink RX3 25 "TroubleCodesModel" "weight" "[I") (mem_at 4 rfl)) (fun _ h9 => h9) rfl dX3_leastFrozen_52 ?_
                refine lv_iload_n hx hb dX3_leastFrozen_55 rfl (lv_at hl 2 rfl) ?_
                refine x_iald (k := k) (f := g 6) hx hb hK hP 6 rfl (by omega) (by decide) dX3_leastFrozen_56 ?_
                refine lv_aload_n hx hb dX3_leastFrozen_57 rfl (lv_at hl 0 rfl) ?_
                refine va_get (D := D) (ci := 3) (v := .ref (q 6)) (C := RX3) (T := TX3) (N := 33) hx hb hts hinX3 hown hK hP 0 rfl rfl 6 (by decide) (hts (.fieldLink RX3 25 "TroubleCodesModel" "weight" "[I") (mem_at 4 rfl)) (fun _ h9 => h9) rfl dX3_leastFrozen_58 ?_
                refine lv_iload_n hx hb dX3_leastFrozen_61 rfl (lv_at hl 1 rfl) ?_
                rw [ej]
                refine x_iald (k := j) (f := g 6) hx hb hK hP 6 rfl (by omega) (by decide) dX3_leastFrozen_62 ?_
                refine lv_icmp_ne (tgt := 83) hx hb dX3_leastFrozen_63 (by decide) (fun c_11 => ?_) (fun c_11 => ?_)
                · refine lv_iinc (v := nI (k + 1)) (lv' := [(2, .int (nI (k + 1))), (0, .ref o), (1, .int (lfF (g 21) (g 1) (g 6) (g 24) k))]) hx hb dX3_leastFrozen_83 hl (k := 2) rfl (nI_1 _) (by decide) rfl (fun ls hl => ?_)
                  refine lv_goto (tgt := 4) hx hb dX3_leastFrozen_86 (by decide) ?_
                  have q_12 : (lfF (g 21) (g 1) (g 6) (g 24) (k + 1) : Int32) = lfF (g 21) (g 1) (g 6) (g 24) k := by rw [lfF]; simp [c_2, Int32.not_le.mp c_2, c_3, c_5, c_7, c_9, c_11, eix]
                  exact ih (k + 1) (by omega) (by omega) ls (by rw [q_12]; exact lv_sub hl [1, 2, 0] rfl)
                · refine lv_aload_n hx hb dX3_leastFrozen_66 rfl (lv_at hl 0 rfl) ?_
                  refine va_get (D := D) (ci := 3) (v := .ref (q 24)) (C := RX3) (T := TX3) (N := 33) hx hb hts hinX3 hown hK hP 0 rfl rfl 24 (by decide) (hts (.fieldLink RX3 75 "TroubleCodesModel" "frozenTurn" "[I") (mem_at 5 rfl)) (fun _ h9 => h9) rfl dX3_leastFrozen_67 ?_
                  refine lv_iload_n hx hb dX3_leastFrozen_70 rfl (lv_at hl 2 rfl) ?_
                  refine x_iald (k := k) (f := g 24) hx hb hK hP 21 rfl (by omega) (by decide) dX3_leastFrozen_71 ?_
                  refine lv_aload_n hx hb dX3_leastFrozen_72 rfl (lv_at hl 0 rfl) ?_
                  refine va_get (D := D) (ci := 3) (v := .ref (q 24)) (C := RX3) (T := TX3) (N := 33) hx hb hts hinX3 hown hK hP 0 rfl rfl 24 (by decide) (hts (.fieldLink RX3 75 "TroubleCodesModel" "frozenTurn" "[I") (mem_at 5 rfl)) (fun _ h9 => h9) rfl dX3_leastFrozen_73 ?_
                  refine lv_iload_n hx hb dX3_leastFrozen_76 rfl (lv_at hl 1 rfl) ?_
                  rw [ej]
                  refine x_iald (k := j) (f := g 24) hx hb hK hP 21 rfl (by omega) (by decide) dX3_leastFrozen_77 ?_
                  refine lv_icmp_ge (tgt := 83) hx hb dX3_leastFrozen_78 (by decide) (fun c_13 => ?_) (fun c_13 => ?_)
                  · refine lv_iinc (v := nI (k + 1)) (lv' := [(2, .int (nI (k + 1))), (0, .ref o), (1, .int (lfF (g 21) (g 1) (g 6) (g 24) k))]) hx hb dX3_leastFrozen_83 hl (k := 2) rfl (nI_1 _) (by decide) rfl (fun ls hl => ?_)
                    refine lv_goto (tgt := 4) hx hb dX3_leastFrozen_86 (by decide) ?_
                    have q_14 : (lfF (g 21) (g 1) (g 6) (g 24) (k + 1) : Int32) = lfF (g 21) (g 1) (g 6) (g 24) k := by rw [lfF]; simp [c_2, Int32.not_le.mp c_2, c_3, c_5, c_7, c_9, c_11, c_13, Int32.not_lt.mpr c_13, eix]
                    exact ih (k + 1) (by omega) (by omega) ls (by rw [q_14]; exact lv_sub hl [1, 2, 0] rfl)
                  · refine lv_iload_n hx hb dX3_leastFrozen_81 rfl (lv_at hl 2 rfl) ?_
                    refine lv_istore_n (lv' := [(1, .int (nI k)), (0, .ref o), (2, .int (nI k))]) hx hb dX3_leastFrozen_82 rfl hl (by decide) rfl (fun ls hl => ?_)
                    refine lv_iinc (v := nI (k + 1)) (lv' := [(2, .int (nI (k + 1))), (1, .int (nI k)), (0, .ref o)]) hx hb dX3_leastFrozen_83 hl (k := 2) rfl (nI_1 _) (by decide) rfl (fun ls hl => ?_)
                    refine lv_goto (tgt := 4) hx hb dX3_leastFrozen_86 (by decide) ?_
                    have q_15 : (lfF (g 21) (g 1) (g 6) (g 24) (k + 1) : Int32) = nI k := by rw [lfF]; simp [c_2, Int32.not_le.mp c_2, c_3, c_5, c_7, c_9, c_11, c_13, Int32.not_le.mp c_13, eix]
                    exact ih (k + 1) (by omega) (by omega) ls (by rw [q_15]; exact lv_sub hl [2, 1, 0] rfl)
  have q_16 : (lfF (g 21) (g 1) (g 6) (g 24) 0 : Int32) = (-1) := by rfl
  have q_17 : (nI 0 : Int32) = 0 := by rfl
  exact LOOP_1 (n - 0 + 1) 0 (Nat.zero_le _) (Nat.lt_succ_self _) ls (by rw [q_16, q_17]; exact lv_sub hl [2, 1, 0] rfl)

def fX3_ran (g : Nat → Nat → Int32) (x b : Int32) : Int32 × (Nat → Nat → Int32) := if 0 ≤ x ∧ x ≤ (g 0 0 - 1) then (if (g 17 0) = 0 then ((-3), g) else (1, va_up g 14 (upd (g 14) (ix x) (if b = 0 then (if (g 14 (ix x)) = 2 then 2 else 1) else 2)))) else ((-2), g)
set_option maxHeartbeats 4000000 in
set_option maxRecDepth 100000 in
theorem tX3_ran (l : Launch) (D : va_G) (cI cZ cC : ClassId) (q : Nat → Nat) (o : Nat) (g : Nat → Nat → Int32) (n : Nat) (hn : g 0 0 = nI n) (hnb : n ≤ 16) (x b : Int32) : WrI l yX3_ran wsX3_ran (rmK 2) D cI cZ cC [.ref o, .int x, .int b] (mW cI cZ q o g) (mW cI cZ q o ((fX3_ran g x b).2)) (fun ans => ans = (fX3_ran g x b).1) := by
  refine WrI.of (cc := cX3_ran) (maxL := 3) (ret := .int) (by decide) rfl (Nat.le_of_ble_eq_true rfl) ?_
  intro p e s m args below meth c Q A ls hx hb hml hts hown hK hP hD hS hA hret hl
  have hl : lv_has ls 3 [(0, .ref o), (1, .int x), (2, .int b)] := hl
  have hinX3 : ∀ w ∈ u_ws RX3 TX3 33, w ∈ wsX3_ran := (fun w h => List.mem_cons_of_mem _ (List.mem_append_right _ h))
  refine lv_aload_n hx hb dX3_ran_0 rfl (lv_at hl 0 rfl) ?_
  refine lv_iload_n hx hb dX3_ran_1 rfl (lv_at hl 1 rfl) ?_
  refine x_rdV (As := [.int x]) (rest := []) ⟨hx, hb, hml, hown, hts⟩ (tX3_isCheck l D cI cZ cC q o g x) (cwV 1 hts gX3_ran_X3_isCheck rfl rfl rfl (by decide +kernel) ⟨Nat.le_of_ble_eq_true rfl, Nat.le_of_ble_eq_true rfl⟩) hK (x_recv (ci := 3) hK hP rfl (q0 := 0) rfl) hP rfl hl.1 rfl (Nat.le_of_ble_eq_true rfl) dX3_ran_2 ⟨Nat.le_of_ble_eq_true rfl, Nat.le_of_ble_eq_true rfl⟩ (fun r_1 er_1 => ?_)
  have er_1 : r_1 = bI (0 ≤ x ∧ x ≤ (g 0 0 - 1)) := er_1
  subst er_1
  refine lv_if_ne (tgt := 11) hx hb dX3_ran_5 (by decide) (fun c_2 => ?_) (fun c_2 => ?_)
  · have c_2 := bI_ne c_2
    refine lv_aload_n hx hb dX3_ran_11 rfl (lv_at hl 0 rfl) ?_
    refine va_get (D := D) (ci := 3) (v := .int (g 17 0)) (C := RX3) (T := TX3) (N := 33) hx hb hts hinX3 hown hK hP 0 rfl rfl 17 (by decide) (hts (.fieldLink RX3 104 "TroubleCodesModel" "goes" "Z") (mem_at 1 rfl)) (fun _ h9 => h9) rfl dX3_ran_12 ?_
    refine lv_if_ne (tgt := 21) hx hb dX3_ran_15 (by decide) (fun c_3 => ?_) (fun c_3 => ?_)
    · obtain ⟨j, hj, ej⟩ := ixck hn (by omega) c_2
      subst ej
      have xj : ix (nI j) = j := ix_nI (by omega)
      refine lv_aload_n hx hb dX3_ran_21 rfl (lv_at hl 0 rfl) ?_
      refine va_get (D := D) (ci := 3) (v := .ref (q 14)) (C := RX3) (T := TX3) (N := 33) hx hb hts hinX3 hown hK hP 0 rfl rfl 14 (by decide) (hts (.fieldLink RX3 50 "TroubleCodesModel" "told" "[I") (mem_at 2 rfl)) (fun _ h9 => h9) rfl dX3_ran_22 ?_
      refine lv_iload_n hx hb dX3_ran_25 rfl (lv_at hl 1 rfl) ?_
      refine lv_iload_n hx hb dX3_ran_26 rfl (lv_at hl 2 rfl) ?_
      have J49_3 : W p l e (rmK 2) s m args below meth c s.heap [] 0 0 Q (F0 m 49 ls [.int (if b = 0 then (if (g 14 j) = 2 then 2 else 1) else 2), .int (nI j), .ref (q 14)]) := by
        refine x_iast (k := j) (f := g 14) (x := if b = 0 then (if (g 14 j) = 2 then 2 else 1) else 2) hx hb hK hP hD hS 14 rfl (by omega) (by decide) dX3_ran_49 (fun H locs hP hD hS => ?_)
        have hP : va_P D vwCl (mW cI cZ q o (va_up g 14 (upd (g 14) j (if b = 0 then (if (g 14 j) = 2 then 2 else 1) else 2)))) H := hP
        have hD : va_D A (mW cI cZ q o (va_up g 14 (upd (g 14) j (if b = 0 then (if (g 14 j) = 2 then 2 else 1) else 2)))) := hD
        refine lv_iconst (v := 1) hx hb dX3_ran_50 (by decide) ?_
        have es : fX3_ran g (nI j) b = (1, va_up g 14 (upd (g 14) j (if b = 0 then (if (g 14 j) = 2 then 2 else 1) else 2))) := by rw [fX3_ran]; simp only [xj]; rw [if_pos c_2, if_neg c_3]
        exact hret 51 _ _ _ _ (by rw [es]) (by rw [es]; exact hP) (by rw [es]; exact hD) hS rfl dX3_ran_51
      refine lv_if_eq (tgt := 34) hx hb dX3_ran_27 (by decide) (fun c_5 => ?_) (fun c_5 => ?_)
      · refine lv_aload_n hx hb dX3_ran_34 rfl (lv_at hl 0 rfl) ?_
        refine va_get (D := D) (ci := 3) (v := .ref (q 14)) (C := RX3) (T := TX3) (N := 33) hx hb hts hinX3 hown hK hP 0 rfl rfl 14 (by decide) (hts (.fieldLink RX3 50 "TroubleCodesModel" "told" "[I") (mem_at 2 rfl)) (fun _ h9 => h9) rfl dX3_ran_35 ?_
        refine lv_iload_n hx hb dX3_ran_38 rfl (lv_at hl 1 rfl) ?_
        refine x_iald (k := j) (f := g 14) hx hb hK hP 14 rfl (by omega) (by decide) dX3_ran_39 ?_
        refine lv_iconst (v := 2) hx hb dX3_ran_40 (by decide) ?_
        refine lv_icmp_ne (tgt := 48) hx hb dX3_ran_41 (by decide) (fun c_6 => ?_) (fun c_6 => ?_)
        · refine lv_iconst (v := 1) hx hb dX3_ran_48 (by decide) ?_
          rw [if_pos c_5, if_neg c_6] at J49_3
          exact J49_3
        · refine lv_iconst (v := 2) hx hb dX3_ran_44 (by decide) ?_
          refine lv_goto (tgt := 49) hx hb dX3_ran_45 (by decide) ?_
          rw [if_pos c_5, if_pos c_6] at J49_3
          exact J49_3
      · refine lv_iconst (v := 2) hx hb dX3_ran_30 (by decide) ?_
        refine lv_goto (tgt := 49) hx hb dX3_ran_31 (by decide) ?_
        rw [if_neg c_5] at J49_3
        exact J49_3
    · refine lv_bipush (v := (-3)) hx hb dX3_ran_18 (by decide) ?_
      have es : fX3_ran g x b = ((-3), g) := by rw [fX3_ran]; rw [if_pos c_2, if_pos c_3]
      exact hret 20 _ _ _ _ (by rw [es]) (by rw [es]; exact hP) (by rw [es]; exact hD) hS rfl dX3_ran_20
  · have c_2 := bI_eq c_2
    refine lv_bipush (v := (-2)) hx hb dX3_ran_8 (by decide) ?_
    have es : fX3_ran g x b = ((-2), g) := by rw [fX3_ran]; rw [if_neg c_2]
    exact hret 10 _ _ _ _ (by rw [es]) (by rw [es]; exact hP) (by rw [es]; exact hD) hS rfl dX3_ran_10

def fX3_fact (g : Nat → Nat → Int32) (x v : Int32) : Int32 × (Nat → Nat → Int32) := if 0 ≤ x ∧ x ≤ 3 then (if (-1000) ≤ v ∧ v ≤ 1000 then (g 19 (ix x), va_up g 19 (upd (g 19) (ix x) v)) else ((-2000), g)) else ((-2000), g)
set_option maxHeartbeats 4000000 in
set_option maxRecDepth 100000 in
theorem tX3_fact (l : Launch) (D : va_G) (cI cZ cC : ClassId) (q : Nat → Nat) (o : Nat) (g : Nat → Nat → Int32) (x v : Int32) : WrI l yX3_fact wsX3_fact (rmK 1) D cI cZ cC [.ref o, .int x, .int v] (mW cI cZ q o g) (mW cI cZ q o ((fX3_fact g x v).2)) (fun ans => ans = (fX3_fact g x v).1) := by
  refine WrI.of (cc := cX3_fact) (maxL := 4) (ret := .int) (by decide) rfl (Nat.le_of_ble_eq_true rfl) ?_
  intro p e s m args below meth c Q A ls hx hb hml hts hown hK hP hD hS hA hret hl
  have hl : lv_has ls 4 [(0, .ref o), (1, .int x), (2, .int v)] := hl
  have hinX3 : ∀ w ∈ u_ws RX3 TX3 33, w ∈ wsX3_fact := (fun w h => List.mem_cons_of_mem _ (List.mem_append_right _ h))
  refine lv_iload_n hx hb dX3_fact_0 rfl (lv_at hl 1 rfl) ?_
  refine lv_iconst (v := 0) hx hb dX3_fact_1 (by decide) ?_
  refine lv_iconst (v := 3) hx hb dX3_fact_2 (by decide) ?_
  refine x_rdS (As := [.int x, .int 0, .int 3]) (rest := []) ⟨hx, hb, hml, hown, hts⟩ (tX3_in l D cI cZ cC x 0 3) (va_cwS 3 hts gX3_fact_X3_in rfl rfl rfl (by decide +kernel) ⟨Nat.le_of_ble_eq_true rfl, Nat.le_of_ble_eq_true rfl⟩) hK trivial rfl hl.1 rfl (Nat.le_of_ble_eq_true rfl) dX3_fact_3 ⟨Nat.le_of_ble_eq_true rfl, Nat.le_of_ble_eq_true rfl⟩ (fun r_1 er_1 => ?_)
  have er_1 : r_1 = bI (0 ≤ x ∧ x ≤ 3) := er_1
  subst er_1
  refine lv_if_eq (tgt := 22) hx hb dX3_fact_6 (by decide) (fun c_2 => ?_) (fun c_2 => ?_)
  · have c_2 := bI_eq c_2
    refine lv_sipush (v := (-2000)) hx hb dX3_fact_22 (by decide) ?_
    have es : fX3_fact g x v = ((-2000), g) := by rw [fX3_fact]; rw [if_neg c_2]
    exact hret 25 _ _ _ _ (by rw [es]) (by rw [es]; exact hP) (by rw [es]; exact hD) hS rfl dX3_fact_25
  · have c_2 := bI_ne c_2
    refine lv_iload_n hx hb dX3_fact_9 rfl (lv_at hl 2 rfl) ?_
    refine lv_sipush (v := (-1000)) hx hb dX3_fact_10 (by decide) ?_
    refine lv_sipush (v := 1000) hx hb dX3_fact_13 (by decide) ?_
    refine x_rdS (As := [.int v, .int (-1000), .int 1000]) (rest := []) ⟨hx, hb, hml, hown, hts⟩ (tX3_in l D cI cZ cC v (-1000) 1000) (va_cwS 3 hts gX3_fact_X3_in rfl rfl rfl (by decide +kernel) ⟨Nat.le_of_ble_eq_true rfl, Nat.le_of_ble_eq_true rfl⟩) hK trivial rfl hl.1 rfl (Nat.le_of_ble_eq_true rfl) dX3_fact_16 ⟨Nat.le_of_ble_eq_true rfl, Nat.le_of_ble_eq_true rfl⟩ (fun r_3 er_3 => ?_)
    have er_3 : r_3 = bI ((-1000) ≤ v ∧ v ≤ 1000) := er_3
    subst er_3
    refine lv_if_ne (tgt := 26) hx hb dX3_fact_19 (by decide) (fun c_4 => ?_) (fun c_4 => ?_)
    · have c_4 := bI_ne c_4
      obtain ⟨j, hj, ej⟩ := ixin (m := 3) (z := 3) rfl (by decide) c_2
      subst ej
      have xj : ix (nI j) = j := ix_nI (by omega)
      refine lv_aload_n hx hb dX3_fact_26 rfl (lv_at hl 0 rfl) ?_
      refine va_get (D := D) (ci := 3) (v := .ref (q 19)) (C := RX3) (T := TX3) (N := 33) hx hb hts hinX3 hown hK hP 0 rfl rfl 19 (by decide) (hts (.fieldLink RX3 59 "TroubleCodesModel" "fact" "[I") (mem_at 1 rfl)) (fun _ h9 => h9) rfl dX3_fact_27 ?_
      refine lv_iload_n hx hb dX3_fact_30 rfl (lv_at hl 1 rfl) ?_
      refine x_iald (k := j) (f := g 19) hx hb hK hP 17 rfl (by omega) (by decide) dX3_fact_31 ?_
      refine lv_istore_n (lv' := [(3, .int (g 19 j)), (0, .ref o), (1, .int (nI j)), (2, .int v)]) hx hb dX3_fact_32 rfl hl (by decide) rfl (fun ls hl => ?_)
      refine lv_aload_n hx hb dX3_fact_33 rfl (lv_at hl 1 rfl) ?_
      refine va_get (D := D) (ci := 3) (v := .ref (q 19)) (C := RX3) (T := TX3) (N := 33) hx hb hts hinX3 hown hK hP 0 rfl rfl 19 (by decide) (hts (.fieldLink RX3 59 "TroubleCodesModel" "fact" "[I") (mem_at 1 rfl)) (fun _ h9 => h9) rfl dX3_fact_34 ?_
      refine lv_iload_n hx hb dX3_fact_37 rfl (lv_at hl 2 rfl) ?_
      refine lv_iload_n hx hb dX3_fact_38 rfl (lv_at hl 3 rfl) ?_
      refine x_iast (k := j) (f := g 19) (x := v) hx hb hK hP hD hS 17 rfl (by omega) (by decide) dX3_fact_39 (fun H locs hP hD hS => ?_)
      have hP : va_P D vwCl (mW cI cZ q o (va_up g 19 (upd (g 19) j v))) H := hP
      have hD : va_D A (mW cI cZ q o (va_up g 19 (upd (g 19) j v))) := hD
      refine lv_iload_n hx hb dX3_fact_40 rfl (lv_at hl 0 rfl) ?_
      have es : fX3_fact g (nI j) v = (g 19 j, va_up g 19 (upd (g 19) j v)) := by rw [fX3_fact]; simp only [xj]; rw [if_pos c_2, if_pos c_4]
      exact hret 41 _ _ _ _ (by rw [es]) (by rw [es]; exact hP) (by rw [es]; exact hD) hS rfl dX3_fact_41
    · have c_4 := bI_eq c_4
      refine lv_sipush (v := (-2000)) hx hb dX3_fact_22 (by decide) ?_
      have es : fX3_fact g x v = ((-2000), g) := by rw [fX3_fact]; rw [if_pos c_2, if_neg c_4]
      exact hret 25 _ _ _ _ (by rw [es]) (by rw [es]; exact hP) (by rw [es]; exact hD) hS rfl dX3_fact_25

def fX3_frozenAt (g : Nat → Nat → Int32) (x : Int32) : Int32 := if 0 ≤ x ∧ x ≤ (g 0 0 - 1) then (if (g 21 (ix x)) = 0 then (-1) else (g 23 (ix x))) else (-2)
set_option maxHeartbeats 4000000 in
set_option maxRecDepth 100000 in
theorem tX3_frozenAt (l : Launch) (D : va_G) (cI cZ cC : ClassId) (q : Nat → Nat) (o : Nat) (g : Nat → Nat → Int32) (n : Nat) (hn : g 0 0 = nI n) (hnb : n ≤ 16) (x : Int32) : RdC l yX3_frozenAt wsX3_frozenAt (rmK 2) D cI cZ cC [.ref o, .int x] (fun H => va_P D vwCl (mW cI cZ q o g) H) (fun ans => ans = fX3_frozenAt g x) := by
  refine RdC.of (cc := cX3_frozenAt) (maxL := 2) (ret := .int) (by decide) rfl (Nat.le_of_ble_eq_true rfl) ?_
  intro p e s m args below meth c Q ls hx hb hml hts hown hK hP hret hl
  have hl : lv_has ls 2 [(0, .ref o), (1, .int x)] := hl
  have hP : va_P D vwCl (mW cI cZ q o g) s.heap := hP
  have hinX3 : ∀ w ∈ u_ws RX3 TX3 33, w ∈ wsX3_frozenAt := (fun w h => List.mem_cons_of_mem _ (List.mem_append_right _ h))
  refine lv_aload_n hx hb dX3_frozenAt_0 rfl (lv_at hl 0 rfl) ?_
  refine lv_iload_n hx hb dX3_frozenAt_1 rfl (lv_at hl 1 rfl) ?_
  refine x_rdV (As := [.int x]) (rest := []) ⟨hx, hb, hml, hown, hts⟩ (tX3_isCheck l D cI cZ cC q o g x) (cwV 1 hts gX3_frozenAt_X3_isCheck rfl rfl rfl (by decide +kernel) ⟨Nat.le_of_ble_eq_true rfl, Nat.le_of_ble_eq_true rfl⟩) hK (x_recv (ci := 3) hK hP rfl (q0 := 0) rfl) hP rfl hl.1 rfl (Nat.le_of_ble_eq_true rfl) dX3_frozenAt_2 ⟨Nat.le_of_ble_eq_true rfl, Nat.le_of_ble_eq_true rfl⟩ (fun r_1 er_1 => ?_)
  have er_1 : r_1 = bI (0 ≤ x ∧ x ≤ (g 0 0 - 1)) := er_1
  subst er_1
  refine lv_if_ne (tgt := 13) hx hb dX3_frozenAt_5 (by decide) (fun c_2 => ?_) (fun c_2 => ?_)
  · have c_2 := bI_ne c_2
    obtain ⟨j, hj, ej⟩ := ixck hn (by omega) c_2
    subst ej
    have xj : ix (nI j) = j := ix_nI (by omega)
    refine lv_aload_n hx hb dX3_frozenAt_13 rfl (lv_at hl 0 rfl) ?_
    refine va_get (D := D) (ci := 3) (v := .ref (q 21)) (C := RX3) (T := TX3) (N := 33) hx hb hts hinX3 hown hK hP 0 rfl rfl 21 (by decide) (hts (.fieldLink RX3 66 "TroubleCodesModel" "isFrozen" "[Z") (mem_at 1 rfl)) (fun _ h9 => h9) rfl dX3_frozenAt_14 ?_
    refine lv_iload_n hx hb dX3_frozenAt_17 rfl (lv_at hl 1 rfl) ?_
    refine x_zald (k := j) (f := g 21) hx hb hK hP 18 rfl (by omega) (by decide) dX3_frozenAt_18 ?_
    refine lv_if_eq (tgt := 31) hx hb dX3_frozenAt_19 (by decide) (fun c_3 => ?_) (fun c_3 => ?_)
    · refine lv_iconst (v := (-1)) hx hb dX3_frozenAt_31 (by decide) ?_
      exact hret 32 _ _ (by rw [fX3_frozenAt]; simp only [xj]; rw [if_pos c_2, if_pos c_3]) rfl dX3_frozenAt_32
    · refine lv_aload_n hx hb dX3_frozenAt_22 rfl (lv_at hl 0 rfl) ?_
      refine va_get (D := D) (ci := 3) (v := .ref (q 23)) (C := RX3) (T := TX3) (N := 33) hx hb hts hinX3 hown hK hP 0 rfl rfl 23 (by decide) (hts (.fieldLink RX3 72 "TroubleCodesModel" "frozenDrive" "[I") (mem_at 2 rfl)) (fun _ h9 => h9) rfl dX3_frozenAt_23 ?_
      refine lv_iload_n hx hb dX3_frozenAt_26 rfl (lv_at hl 1 rfl) ?_
      refine x_iald (k := j) (f := g 23) hx hb hK hP 20 rfl (by omega) (by decide) dX3_frozenAt_27 ?_
      refine lv_goto (tgt := 32) hx hb dX3_frozenAt_28 (by decide) ?_
      exact hret 32 _ _ (by rw [fX3_frozenAt]; simp only [xj]; rw [if_pos c_2, if_neg c_3]) rfl dX3_frozenAt_32
  · have c_2 := bI_eq c_2
    refine lv_bipush (v := (-2)) hx hb dX3_frozenAt_8 (by decide) ?_
    refine lv_goto (tgt := 32) hx hb dX3_frozenAt_10 (by decide) ?_
    exact hret 32 _ _ (by rw [fX3_frozenAt]; rw [if_neg c_2]) rfl dX3_frozenAt_32

def fX3_sets (g : Nat → Nat → Int32) (x : Int32) : Int32 := if 0 ≤ x ∧ x ≤ (g 0 0 - 1) then (g 15 (ix x)) else (-2)
set_option maxHeartbeats 4000000 in
set_option maxRecDepth 100000 in
theorem tX3_sets (l : Launch) (D : va_G) (cI cZ cC : ClassId) (q : Nat → Nat) (o : Nat) (g : Nat → Nat → Int32) (n : Nat) (hn : g 0 0 = nI n) (hnb : n ≤ 16) (x : Int32) : RdC l yX3_sets wsX3_sets (rmK 2) D cI cZ cC [.ref o, .int x] (fun H => va_P D vwCl (mW cI cZ q o g) H) (fun ans => ans = fX3_sets g x) := by
  refine RdC.of (cc := cX3_sets) (maxL := 2) (ret := .int) (by decide) rfl (Nat.le_of_ble_eq_true rfl) ?_
  intro p e s m args below meth c Q ls hx hb hml hts hown hK hP hret hl
  have hl : lv_has ls 2 [(0, .ref o), (1, .int x)] := hl
  have hP : va_P D vwCl (mW cI cZ q o g) s.heap := hP
  have hinX3 : ∀ w ∈ u_ws RX3 TX3 33, w ∈ wsX3_sets := (fun w h => List.mem_cons_of_mem _ (List.mem_append_right _ h))
  refine lv_aload_n hx hb dX3_sets_0 rfl (lv_at hl 0 rfl) ?_
  refine lv_iload_n hx hb dX3_sets_1 rfl (lv_at hl 1 rfl) ?_
  refine x_rdV (As := [.int x]) (rest := []) ⟨hx, hb, hml, hown, hts⟩ (tX3_isCheck l D cI cZ cC q o g x) (cwV 1 hts gX3_sets_X3_isCheck rfl rfl rfl (by decide +kernel) ⟨Nat.le_of_ble_eq_true rfl, Nat.le_of_ble_eq_true rfl⟩) hK (x_recv (ci := 3) hK hP rfl (q0 := 0) rfl) hP rfl hl.1 rfl (Nat.le_of_ble_eq_true rfl) dX3_sets_2 ⟨Nat.le_of_ble_eq_true rfl, Nat.le_of_ble_eq_true rfl⟩ (fun r_1 er_1 => ?_)
  have er_1 : r_1 = bI (0 ≤ x ∧ x ≤ (g 0 0 - 1)) := er_1
  subst er_1
  refine lv_if_eq (tgt := 17) hx hb dX3_sets_5 (by decide) (fun c_2 => ?_) (fun c_2 => ?_)
  · have c_2 := bI_eq c_2
    refine lv_bipush (v := (-2)) hx hb dX3_sets_17 (by decide) ?_
    exact hret 19 _ _ (by rw [fX3_sets]; rw [if_neg c_2]) rfl dX3_sets_19
  · have c_2 := bI_ne c_2
    obtain ⟨j, hj, ej⟩ := ixck hn (by omega) c_2
    subst ej
    have xj : ix (nI j) = j := ix_nI (by omega)
    refine lv_aload_n hx hb dX3_sets_8 rfl (lv_at hl 0 rfl) ?_
    refine va_get (D := D) (ci := 3) (v := .ref (q 15)) (C := RX3) (T := TX3) (N := 33) hx hb hts hinX3 hown hK hP 0 rfl rfl 15 (by decide) (hts (.fieldLink RX3 53 "TroubleCodesModel" "sets" "[I") (mem_at 1 rfl)) (fun _ h9 => h9) rfl dX3_sets_9 ?_
    refine lv_iload_n hx hb dX3_sets_12 rfl (lv_at hl 1 rfl) ?_
    refine x_iald (k := j) (f := g 15) hx hb hK hP 15 rfl (by omega) (by decide) dX3_sets_13 ?_
    refine lv_goto (tgt := 19) hx hb dX3_sets_14 (by decide) ?_
    exact hret 19 _ _ (by rw [fX3_sets]; simp only [xj]; rw [if_pos c_2]) rfl dX3_sets_19

theorem ix4 (k i : Nat) : (4 : Int32) * nI k + nI i = nI (4 * k + i) := by
  rw [show (4 : Int32) = nI 4 from rfl, pk_mul, nI_add]
theorem ix16 (k i : Nat) : (16 : Int32) * nI k + nI i = nI (16 * k + i) := by
  rw [show (16 : Int32) = nI 16 from rfl, pk_mul, nI_add]

def fX3_frozen (g : Nat → Nat → Int32) (x i : Int32) : Int32 := if 0 ≤ x ∧ x ≤ (g 0 0 - 1) then (if 0 ≤ i ∧ i ≤ 3 then (if (g 21 (ix x)) = 0 then (-2000) else (g 22 (4 * (ix x) + (ix i)))) else (-2000)) else (-2000)
set_option maxHeartbeats 4000000 in
set_option maxRecDepth 100000 in
theorem tX3_frozen (l : Launch) (D : va_G) (cI cZ cC : ClassId) (q : Nat → Nat) (o : Nat) (g : Nat → Nat → Int32) (n : Nat) (hn : g 0 0 = nI n) (hnb : n ≤ 16) (x i : Int32) : RdC l yX3_frozen wsX3_frozen (rmK 2) D cI cZ cC [.ref o, .int x, .int i] (fun H => va_P D vwCl (mW cI cZ q o g) H) (fun ans => ans = fX3_frozen g x i) := by
  refine RdC.of (cc := cX3_frozen) (maxL := 3) (ret := .int) (by decide) rfl (Nat.le_of_ble_eq_true rfl) ?_
  intro p e s m args below meth c Q ls hx hb hml hts hown hK hP hret hl
  have hl : lv_has ls 3 [(0, .ref o), (1, .int x), (2, .int i)] := hl
  have hP : va_P D vwCl (mW cI cZ q o g) s.heap := hP
  have hinX3 : ∀ w ∈ u_ws RX3 TX3 33, w ∈ wsX3_frozen := (fun w h => List.mem_cons_of_mem _ (List.mem_append_right _ h))
  refine lv_aload_n hx hb dX3_frozen_0 rfl (lv_at hl 0 rfl) ?_
  refine lv_iload_n hx hb dX3_frozen_1 rfl (lv_at hl 1 rfl) ?_
  refine x_rdV (As := [.int x]) (rest := []) ⟨hx, hb, hml, hown, hts⟩ (tX3_isCheck l D cI cZ cC q o g x) (cwV 1 hts gX3_frozen_X3_isCheck rfl rfl rfl (by decide +kernel) ⟨Nat.le_of_ble_eq_true rfl, Nat.le_of_ble_eq_true rfl⟩) hK (x_recv (ci := 3) hK hP rfl (q0 := 0) rfl) hP rfl hl.1 rfl (Nat.le_of_ble_eq_true rfl) dX3_frozen_2 ⟨Nat.le_of_ble_eq_true rfl, Nat.le_of_ble_eq_true rfl⟩ (fun r_1 er_1 => ?_)
  have er_1 : r_1 = bI (0 ≤ x ∧ x ≤ (g 0 0 - 1)) := er_1
  subst er_1
  refine lv_if_eq (tgt := 39) hx hb dX3_frozen_5 (by decide) (fun c_2 => ?_) (fun c_2 => ?_)
  · have c_2 := bI_eq c_2
    refine lv_sipush (v := (-2000)) hx hb dX3_frozen_39 (by decide) ?_
    exact hret 42 _ _ (by rw [fX3_frozen]; rw [if_neg c_2]) rfl dX3_frozen_42
  · have c_2 := bI_ne c_2
    refine lv_iload_n hx hb dX3_frozen_8 rfl (lv_at hl 2 rfl) ?_
    refine lv_iconst (v := 0) hx hb dX3_frozen_9 (by decide) ?_
    refine lv_iconst (v := 3) hx hb dX3_frozen_10 (by decide) ?_
    refine x_rdS (As := [.int i, .int 0, .int 3]) (rest := []) ⟨hx, hb, hml, hown, hts⟩ (tX3_in l D cI cZ cC i 0 3) (va_cwS 3 hts gX3_frozen_X3_in rfl rfl rfl (by decide +kernel) ⟨Nat.le_of_ble_eq_true rfl, Nat.le_of_ble_eq_true rfl⟩) hK trivial rfl hl.1 rfl (Nat.le_of_ble_eq_true rfl) dX3_frozen_11 ⟨Nat.le_of_ble_eq_true rfl, Nat.le_of_ble_eq_true rfl⟩ (fun r_3 er_3 => ?_)
    have er_3 : r_3 = bI (0 ≤ i ∧ i ≤ 3) := er_3
    subst er_3
    refine lv_if_eq (tgt := 39) hx hb dX3_frozen_14 (by decide) (fun c_4 => ?_) (fun c_4 => ?_)
    · have c_4 := bI_eq c_4
      refine lv_sipush (v := (-2000)) hx hb dX3_frozen_39 (by decide) ?_
      exact hret 42 _ _ (by rw [fX3_frozen]; rw [if_pos c_2, if_neg c_4]) rfl dX3_frozen_42
    · have c_4 := bI_ne c_4
      obtain ⟨j, hj, ej⟩ := ixck hn (by omega) c_2
      subst ej
      have xj : ix (nI j) = j := ix_nI (by omega)
      obtain ⟨jb, hjb, ejb⟩ := ixin (m := 3) (z := 3) rfl (by decide) c_4
      subst ejb
      have xjb : ix (nI jb) = jb := ix_nI (by omega)
      refine lv_aload_n hx hb dX3_frozen_17 rfl (lv_at hl 0 rfl) ?_
      refine va_get (D := D) (ci := 3) (v := .ref (q 21)) (C := RX3) (T := TX3) (N := 33) hx hb hts hinX3 hown hK hP 0 rfl rfl 21 (by decide) (hts (.fieldLink RX3 66 "TroubleCodesModel" "isFrozen" "[Z") (mem_at 1 rfl)) (fun _ h9 => h9) rfl dX3_frozen_18 ?_
      refine lv_iload_n hx hb dX3_frozen_21 rfl (lv_at hl 1 rfl) ?_
      refine x_zald (k := j) (f := g 21) hx hb hK hP 18 rfl (by omega) (by decide) dX3_frozen_22 ?_
      refine lv_if_eq (tgt := 39) hx hb dX3_frozen_23 (by decide) (fun c_5 => ?_) (fun c_5 => ?_)
      · refine lv_sipush (v := (-2000)) hx hb dX3_frozen_39 (by decide) ?_
        exact hret 42 _ _ (by rw [fX3_frozen]; simp only [xj, xjb]; rw [if_pos c_2, if_pos c_4, if_pos c_5]) rfl dX3_frozen_42
      · refine lv_aload_n hx hb dX3_frozen_26 rfl (lv_at hl 0 rfl) ?_
        refine va_get (D := D) (ci := 3) (v := .ref (q 22)) (C := RX3) (T := TX3) (N := 33) hx hb hts hinX3 hown hK hP 0 rfl rfl 22 (by decide) (hts (.fieldLink RX3 69 "TroubleCodesModel" "frozenFact" "[I") (mem_at 2 rfl)) (fun _ h9 => h9) rfl dX3_frozen_27 ?_
        refine lv_iconst (v := 4) hx hb dX3_frozen_30 (by decide) ?_
        refine lv_iload_n hx hb dX3_frozen_31 rfl (lv_at hl 1 rfl) ?_
        refine lv_imul hx hb dX3_frozen_32 ?_
        refine lv_iload_n hx hb dX3_frozen_33 rfl (lv_at hl 2 rfl) ?_
        refine lv_iadd hx hb dX3_frozen_34 ?_
        rw [ix4]
        refine x_iald (k := (4 * j + jb)) (f := g 22) hx hb hK hP 19 rfl (by omega) (by decide) dX3_frozen_35 ?_
        refine lv_goto (tgt := 42) hx hb dX3_frozen_36 (by decide) ?_
        exact hret 42 _ _ (by rw [fX3_frozen]; simp only [xj, xjb]; rw [if_pos c_2, if_pos c_4, if_neg c_5]) rfl dX3_frozen_42

def fX3_foretells (g : Nat → Nat → Int32) (y x : Int32) : Int32 := if 0 ≤ y ∧ y ≤ (g 0 0 - 1) then (if 0 ≤ x ∧ x ≤ (g 0 0 - 1) then (g 16 (16 * (ix y) + (ix x))) else (-2)) else (-2)
set_option maxHeartbeats 4000000 in
set_option maxRecDepth 100000 in
theorem tX3_foretells (l : Launch) (D : va_G) (cI cZ cC : ClassId) (q : Nat → Nat) (o : Nat) (g : Nat → Nat → Int32) (n : Nat) (hn : g 0 0 = nI n) (hnb : n ≤ 16) (y x : Int32) : RdC l yX3_foretells wsX3_foretells (rmK 2) D cI cZ cC [.ref o, .int y, .int x] (fun H => va_P D vwCl (mW cI cZ q o g) H) (fun ans => ans = fX3_foretells g y x) := by
  refine RdC.of (cc := cX3_foretells) (maxL := 3) (ret := .int) (by decide) rfl (Nat.le_of_ble_eq_true rfl) ?_
  intro p e s m args below meth c Q ls hx hb hml hts hown hK hP hret hl
  have hl : lv_has ls 3 [(0, .ref o), (1, .int y), (2, .int x)] := hl
  have hP : va_P D vwCl (mW cI cZ q o g) s.heap := hP
  have hinX3 : ∀ w ∈ u_ws RX3 TX3 33, w ∈ wsX3_foretells := (fun w h => List.mem_cons_of_mem _ (List.mem_append_right _ h))
  refine lv_aload_n hx hb dX3_foretells_0 rfl (lv_at hl 0 rfl) ?_
  refine lv_iload_n hx hb dX3_foretells_1 rfl (lv_at hl 1 rfl) ?_
  refine x_rdV (As := [.int y]) (rest := []) ⟨hx, hb, hml, hown, hts⟩ (tX3_isCheck l D cI cZ cC q o g y) (cwV 1 hts gX3_foretells_X3_isCheck rfl rfl rfl (by decide +kernel) ⟨Nat.le_of_ble_eq_true rfl, Nat.le_of_ble_eq_true rfl⟩) hK (x_recv (ci := 3) hK hP rfl (q0 := 0) rfl) hP rfl hl.1 rfl (Nat.le_of_ble_eq_true rfl) dX3_foretells_2 ⟨Nat.le_of_ble_eq_true rfl, Nat.le_of_ble_eq_true rfl⟩ (fun r_1 er_1 => ?_)
  have er_1 : r_1 = bI (0 ≤ y ∧ y ≤ (g 0 0 - 1)) := er_1
  subst er_1
  refine lv_if_eq (tgt := 30) hx hb dX3_foretells_5 (by decide) (fun c_2 => ?_) (fun c_2 => ?_)
  · have c_2 := bI_eq c_2
    refine lv_bipush (v := (-2)) hx hb dX3_foretells_30 (by decide) ?_
    exact hret 32 _ _ (by rw [fX3_foretells]; rw [if_neg c_2]) rfl dX3_foretells_32
  · have c_2 := bI_ne c_2
    refine lv_aload_n hx hb dX3_foretells_8 rfl (lv_at hl 0 rfl) ?_
    refine lv_iload_n hx hb dX3_foretells_9 rfl (lv_at hl 2 rfl) ?_
    refine x_rdV (As := [.int x]) (rest := []) ⟨hx, hb, hml, hown, hts⟩ (tX3_isCheck l D cI cZ cC q o g x) (cwV 1 hts gX3_foretells_X3_isCheck rfl rfl rfl (by decide +kernel) ⟨Nat.le_of_ble_eq_true rfl, Nat.le_of_ble_eq_true rfl⟩) hK (x_recv (ci := 3) hK hP rfl (q0 := 0) rfl) hP rfl hl.1 rfl (Nat.le_of_ble_eq_true rfl) dX3_foretells_10 ⟨Nat.le_of_ble_eq_true rfl, Nat.le_of_ble_eq_true rfl⟩ (fun r_3 er_3 => ?_)
    have er_3 : r_3 = bI (0 ≤ x ∧ x ≤ (g 0 0 - 1)) := er_3
    subst er_3
    refine lv_if_eq (tgt := 30) hx hb dX3_foretells_13 (by decide) (fun c_4 => ?_) (fun c_4 => ?_)
    · have c_4 := bI_eq c_4
      refine lv_bipush (v := (-2)) hx hb dX3_foretells_30 (by decide) ?_
      exact hret 32 _ _ (by rw [fX3_foretells]; rw [if_pos c_2, if_neg c_4]) rfl dX3_foretells_32
    · have c_4 := bI_ne c_4
      obtain ⟨jb, hjb, ejb⟩ := ixck hn (by omega) c_2
      subst ejb
      have xjb : ix (nI jb) = jb := ix_nI (by omega)
      obtain ⟨j, hj, ej⟩ := ixck hn (by omega) c_4
      subst ej
      have xj : ix (nI j) = j := ix_nI (by omega)
      refine lv_aload_n hx hb dX3_foretells_16 rfl (lv_at hl 0 rfl) ?_
      refine va_get (D := D) (ci := 3) (v := .ref (q 16)) (C := RX3) (T := TX3) (N := 33) hx hb hts hinX3 hown hK hP 0 rfl rfl 16 (by decide) (hts (.fieldLink RX3 56 "TroubleCodesModel" "foretold" "[I") (mem_at 1 rfl)) (fun _ h9 => h9) rfl dX3_foretells_17 ?_
      refine lv_bipush (v := 16) hx hb dX3_foretells_20 (by decide) ?_
      refine lv_iload_n hx hb dX3_foretells_22 rfl (lv_at hl 1 rfl) ?_
      refine lv_imul hx hb dX3_foretells_23 ?_
      refine lv_iload_n hx hb dX3_foretells_24 rfl (lv_at hl 2 rfl) ?_
      refine lv_iadd hx hb dX3_foretells_25 ?_
      rw [ix16]
      refine x_iald (k := (16 * jb + j)) (f := g 16) hx hb hK hP 16 rfl (by omega) (by decide) dX3_foretells_26 ?_
      refine lv_goto (tgt := 32) hx hb dX3_foretells_27 (by decide) ?_
      exact hret 32 _ _ (by rw [fX3_foretells]; simp only [xjb, xj]; rw [if_pos c_2, if_pos c_4]) rfl dX3_foretells_32
end
section
theorem vus {g : Nat → Nat → Int32} {k : Nat} : va_up g k (g k) = g := by
  funext j
  by_cases h : j = k
  · subst h; simp [va_up]
  · simp [va_up, h]
def fil (a b : Nat → Int32) (k : Nat) : Nat → Int32 := fun j => if j < k then a j else b j
theorem fil_0 {a b : Nat → Int32} : fil a b 0 = b := by funext j; simp [fil]
theorem fil_s {a b : Nat → Int32} {k : Nat} : fil a b (k + 1) = upd (fil a b k) k (a k) := by
  funext j
  by_cases h : j = k
  · subst h; simp [fil, upd]
  · simp only [fil, upd, if_neg h]
    by_cases h2 : j < k
    · rw [if_pos h2, if_pos (by omega)]
    · rw [if_neg h2, if_neg (by omega)]
def clr (so a : Nat → Int32) (k : Nat) : Nat → Int32 := fun j => if j < k ∧ ¬ so j = 1 then 0 else a j
theorem clr_0 {s a : Nat → Int32} : clr s a 0 = a := by funext j; simp [clr]
theorem clr_k {s a : Nat → Int32} {k : Nat} : clr s a k k = a k := by simp [clr]
theorem clr_t {s a : Nat → Int32} {k : Nat} (h : s k = 1) : clr s a (k + 1) = clr s a k := by
  funext j
  simp only [clr]
  by_cases h2 : j < k
  · simp [h2, Nat.lt_succ_of_lt h2]
  · by_cases h3 : j = k
    · subst h3; simp [h]
    · rw [if_neg (by omega), if_neg (by omega)]
theorem clr_f {s a : Nat → Int32} {k : Nat} (h : ¬ s k = 1) : clr s a (k + 1) = upd (clr s a k) k 0 := by
  funext j
  simp only [clr, upd]
  by_cases h3 : j = k
  · subst h3; simp [h]
  · rw [if_neg h3]
    by_cases h2 : j < k
    · simp [h2, Nat.lt_succ_of_lt h2]
    · rw [if_neg (by omega), if_neg (by omega)]
def ff4 (a b : Nat → Int32) (k i : Nat) : Nat → Int32 := fun x => if 4 * k ≤ x ∧ x < 4 * k + i then a (x - 4 * k) else b x
theorem ff4_0 {a b : Nat → Int32} {k : Nat} : ff4 a b k 0 = b := by
  funext j; simp only [ff4]; rw [if_neg (by omega)]
theorem ff4_s {a b : Nat → Int32} {k i : Nat} : ff4 a b k (i + 1) = upd (ff4 a b k i) (4 * k + i) (a i) := by
  funext j
  simp only [ff4, upd]
  by_cases h : j = 4 * k + i
  · subst h; rw [if_pos (by omega), if_pos rfl]; congr 1; omega
  · rw [if_neg h]
    by_cases h2 : 4 * k ≤ j ∧ j < 4 * k + i
    · rw [if_pos h2, if_pos (by omega)]
    · rw [if_neg h2, if_neg (by omega)]
def fo16 (be a : Nat → Int32) (k i : Nat) : Nat → Int32 := fun x => if x % 16 = k ∧ x / 16 < i then a x + (if be (x / 16) = 1 then 1 else if be (x / 16) = 2 then 1 else 0) else a x
theorem fo16_0 {be a : Nat → Int32} {k : Nat} : fo16 be a k 0 = a := by
  funext j; simp [fo16]
theorem fo16_k {be a : Nat → Int32} {k i : Nat} (hk : k < 16) : fo16 be a k i (16 * i + k) = a (16 * i + k) := by
  simp only [fo16]; rw [if_neg (by omega)]
theorem fo16_s {be a : Nat → Int32} {k i : Nat} (hk : k < 16) : fo16 be a k (i + 1) = upd (fo16 be a k i) (16 * i + k) (a (16 * i + k) + (if be i = 1 then 1 else if be i = 2 then 1 else 0)) := by
  funext j
  simp only [fo16, upd]
  by_cases h : j = 16 * i + k
  · subst h
    have h1 : (16 * i + k) / 16 = i := by omega
    rw [if_pos (by omega), if_pos rfl, h1]
  · rw [if_neg h]
    by_cases h2 : j % 16 = k ∧ j / 16 < i
    · rw [if_pos h2, if_pos (by omega)]
    · rw [if_neg h2, if_neg (by omega)]
def cntN (a : Nat → Int32) : Nat → Nat
  | 0 => 0
  | k + 1 => cntN a k + (if a k = 0 then 0 else 1)
theorem sum_cnt (a : Nat → Int32) : ∀ k : Nat, sumN (fun j => if a j = 0 then 0 else 1) k = nI (cntN a k)
  | 0 => rfl
  | k + 1 => by
    rw [sumN, cntN, sum_cnt a k]
    split
    · exact (nI_add _ 0)
    · exact nI_1 _
theorem cnt_le (a : Nat → Int32) : ∀ k : Nat, cntN a k ≤ k
  | 0 => Nat.le_refl _
  | k + 1 => by
    have := cnt_le a k
    rw [cntN]; split <;> omega
theorem cnt_congr {a b : Nat → Int32} : ∀ k : Nat, (∀ j, j < k → a j = b j) → cntN a k = cntN b k
  | 0, _ => rfl
  | k + 1, h => by rw [cntN, cntN, cnt_congr k (fun j hj => h j (by omega)), h k (by omega)]
theorem cnt_upd (a : Nat → Int32) (j : Nat) (h : ¬ a j = 0) : ∀ k : Nat, j < k → cntN (upd a j 0) k + 1 = cntN a k
  | 0, hj => absurd hj (Nat.not_lt_zero _)
  | k + 1, hj => by
    rw [cntN, cntN]
    by_cases hk : j = k
    · subst hk
      have e : cntN (upd a j 0) j = cntN a j := cnt_congr j (fun i hi => by simp [upd, Nat.ne_of_lt hi])
      rw [e]; simp [upd, h]
    · have := cnt_upd a j h k (by omega)
      have e : upd a j 0 k = a k := by simp [upd, Ne.symm hk]
      rw [e]; omega
def thw (so we tu : Nat → Int32) (r : Int32) (n : Nat) : Nat → (Nat → Int32) → (Nat → Int32)
  | 0, a => a
  | t + 1, a => if r < sumN (fun j => if a j = 0 then 0 else 1) n ∧ ¬ lfF a so we tu n = -1 then thw so we tu r n t (upd a (ix (lfF a so we tu n)) 0) else a
def anyN (p : Nat → Bool) : Nat → Bool
  | 0 => false
  | k + 1 => anyN p k || p k
theorem anyN_of {p : Nat → Bool} {k : Nat} (h : p k = true) : ∀ n : Nat, k < n → anyN p n = true
  | 0, hk => absurd hk (Nat.not_lt_zero _)
  | n + 1, hk => by
    rw [anyN]
    by_cases e : k = n
    · subst e; simp [h]
    · simp [anyN_of h n (by omega)]
theorem tb_out6 {x : Int32} (c : x.toInt < 0 ∨ 6 < x.toInt) : ¬ x = 0 ∧ ¬ x = 1 ∧ ¬ x = 2 ∧ ¬ x = 3 ∧ ¬ x = 4 ∧ ¬ x = 5 ∧ ¬ x = 6 := by
  refine ⟨?_, ?_, ?_, ?_, ?_, ?_, ?_⟩ <;> (intro h; rw [h] at c; revert c; decide)
theorem tb_out7 {x : Int32} (c : x.toInt < 0 ∨ 7 < x.toInt) : ¬ x = 0 ∧ ¬ x = 1 ∧ ¬ x = 2 ∧ ¬ x = 3 ∧ ¬ x = 4 ∧ ¬ x = 5 ∧ ¬ x = 6 ∧ ¬ x = 7 := by
  refine ⟨?_, ?_, ?_, ?_, ?_, ?_, ?_, ?_⟩ <;> (intro h; rw [h] at c; revert c; decide)
end
section
def fX3_begin (g : Nat → Nat → Int32) (n : Nat) : Int32 × (Nat → Nat → Int32) := if (g 17 0) = 0 then (g 18 0, va_up (va_up (va_up g 13 (fil (g 8) (g 13) n)) 14 (fil (fun _ => 0) (g 14) n)) 17 (fun _ => 1)) else ((-3), g)
set_option maxHeartbeats 4000000 in
set_option maxRecDepth 100000 in
theorem tX3_begin (l : Launch) (D : va_G) (cI cZ cC : ClassId) (q : Nat → Nat) (o : Nat) (g : Nat → Nat → Int32) (n : Nat) (hn : g 0 0 = nI n) (hnb : n ≤ 16) : WrI l yX3_begin wsX3_begin (rmK 0) D cI cZ cC [.ref o] (mW cI cZ q o g) (mW cI cZ q o ((fX3_begin g n).2)) (fun ans => ans = (fX3_begin g n).1) := by
  refine WrI.of (cc := cX3_begin) (maxL := 2) (ret := .int) (by decide) rfl (Nat.le_of_ble_eq_true rfl) ?_
  intro p e s m args below meth c Q A ls hx hb hml hts hown hK hP hD hS hA hret hl
  have hl : lv_has ls 2 [(0, .ref o)] := hl
  have hinX3 : ∀ w ∈ u_ws RX3 TX3 33, w ∈ wsX3_begin := (fun w h => List.mem_cons_of_mem _ (List.mem_append_right _ h))
  refine lv_aload_n hx hb dX3_begin_0 rfl (lv_at hl 0 rfl) ?_
  refine va_get (D := D) (ci := 3) (v := .int (g 17 0)) (C := RX3) (T := TX3) (N := 33) hx hb hts hinX3 hown hK hP 0 rfl rfl 17 (by decide) (hts (.fieldLink RX3 104 "TroubleCodesModel" "goes" "Z") (mem_at 1 rfl)) (fun _ h9 => h9) rfl dX3_begin_1 ?_
  refine lv_if_eq (tgt := 10) hx hb dX3_begin_4 (by decide) (fun c_1 => ?_) (fun c_1 => ?_)
  · refine lv_aload_n hx hb dX3_begin_10 rfl (lv_at hl 0 rfl) ?_
    refine lv_iconst (v := 1) hx hb dX3_begin_11 (by decide) ?_
    refine va_put (D := D) (ci := 3) (v := .int 1) (ty := .boolean) (C := RX3) (T := TX3) (N := 33) hx hb hts hinX3 tyX3 tyX3_ok nmX3 hown hK hP hD hS 0 rfl rfl 17 (by decide) (hts (.fieldLink RX3 104 "TroubleCodesModel" "goes" "Z") (mem_at 1 rfl)) (fun _ h9 => h9) rfl (by decide +kernel) rfl rfl (Nat.le_of_ble_eq_true rfl) dX3_begin_12 (fun H locs hP hD hS => ?_)
    have hP : va_P D vwCl (mW cI cZ q o (va_up g 17 (fun _ => 1))) H := hP
    have hD : va_D A (mW cI cZ q o (va_up g 17 (fun _ => 1))) := hD
    refine lv_iconst (v := 0) hx hb dX3_begin_15 (by decide) ?_
    refine lv_istore_n (lv' := [(1, .int 0), (0, .ref o)]) hx hb dX3_begin_16 rfl hl (by decide) rfl (fun ls hl => ?_)
    have LOOP_2 : ∀ (fu k : Nat), k ≤ n → n - k < fu → ∀ (H : Heap) (locs : List Loc) (ls : Array Slot), va_P D vwCl (mW cI cZ q o (va_up (va_up (va_up g 13 (fil (g 8) (g 13) k)) 14 (fil (fun _ => 0) (g 14) k)) 17 (fun _ => 1))) H → va_D A (mW cI cZ q o (va_up (va_up (va_up g 13 (fil (g 8) (g 13) k)) 14 (fil (fun _ => 0) (g 14) k)) 17 (fun _ => 1))) → va_S A s.heap H locs → lv_has ls 2 [(0, .ref o), (1, .int (nI k))] → W p l e (rmK 0) s m args below meth c H locs 0 0 Q (F0 m 17 ls []) := by
      intro fu
      induction fu with
      | zero => intro k h1 h2; exact absurd h2 (Nat.not_lt_zero _)
      | succ fu ih =>
        intro k hkn hfu  H locs ls hP hD hS hl
        refine lv_iload_n hx hb dX3_begin_17 rfl (lv_at hl 1 rfl) ?_
        refine lv_aload_n hx hb dX3_begin_18 rfl (lv_at hl 0 rfl) ?_
        refine va_get (D := D) (ci := 3) (v := .int (g 0 0)) (C := RX3) (T := TX3) (N := 33) hx hb hts hinX3 hown hK hP 0 rfl rfl 0 (by decide) (hts (.fieldLink RX3 93 "TroubleCodesModel" "checks" "I") (mem_at 2 rfl)) (fun _ h9 => h9) rfl dX3_begin_19 ?_
        refine lv_icmp_ge (tgt := 50) hx hb dX3_begin_22 (by decide) (fun c_3 => ?_) (fun c_3 => ?_)
        · have ekn : n = k := Nat.le_antisymm (kx_ge hn (by omega) (by omega) c_3) hkn
          subst ekn
          refine lv_aload_n hx hb dX3_begin_50 rfl (lv_at hl 0 rfl) ?_
          refine va_get (D := D) (ci := 3) (v := .int (g 18 0)) (C := RX3) (T := TX3) (N := 33) hx hb hts hinX3 hown hK hP 0 rfl rfl 18 (by decide) (hts (.fieldLink RX3 108 "TroubleCodesModel" "drives" "I") (mem_at 6 rfl)) (fun _ h9 => h9) rfl dX3_begin_51 ?_
          have es : fX3_begin g n = (g 18 0, va_up (va_up (va_up g 13 (fil (g 8) (g 13) n)) 14 (fil (fun _ => 0) (g 14) n)) 17 (fun _ => 1)) := by rw [fX3_begin]; rw [if_pos c_1]
          exact hret 54 _ _ _ _ (by rw [es]) (by rw [es]; exact hP) (by rw [es]; exact hD) hS rfl dX3_begin_54
        · have hkl : k < n := kx_lt hn (by omega) (by omega) c_3
          refine lv_aload_n hx hb dX3_begin_25 rfl (lv_at hl 0 rfl) ?_
          refine va_get (D := D) (ci := 3) (v := .ref (q 13)) (C := RX3) (T := TX3) (N := 33) hx hb hts hinX3 hown hK hP 0 rfl rfl 13 (by decide) (hts (.fieldLink RX3 47 "TroubleCodesModel" "begun" "[I") (mem_at 3 rfl)) (fun _ h9 => h9) rfl dX3_begin_26 ?_
          refine lv_iload_n hx hb dX3_begin_29 rfl (lv_at hl 1 rfl) ?_
          refine lv_aload_n hx hb dX3_begin_30 rfl (lv_at hl 0 rfl) ?_
          refine va_get (D := D) (ci := 3) (v := .ref (q 8)) (C := RX3) (T := TX3) (N := 33) hx hb hts hinX3 hown hK hP 0 rfl rfl 8 (by decide) (hts (.fieldLink RX3 32 "TroubleCodesModel" "code" "[I") (mem_at 4 rfl)) (fun _ h9 => h9) rfl dX3_begin_31 ?_
          refine lv_iload_n hx hb dX3_begin_34 rfl (lv_at hl 1 rfl) ?_
          refine x_iald (k := k) (f := g 8) hx hb hK hP 8 rfl (by omega) (by decide) dX3_begin_35 ?_
          refine x_iast (k := k) (f := fil (g 8) (g 13) k) (x := g 8 k) hx hb hK hP hD hS 13 rfl (by omega) (by decide) dX3_begin_36 (fun H locs hP hD hS => ?_)
          have hP : va_P D vwCl (mW cI cZ q o (va_up (va_up (va_up g 13 (upd (fil (g 8) (g 13) k) k (g 8 k))) 14 (fil (fun _ => 0) (g 14) k)) 17 (fun _ => 1))) H := hP
          have hD : va_D A (mW cI cZ q o (va_up (va_up (va_up g 13 (upd (fil (g 8) (g 13) k) k (g 8 k))) 14 (fil (fun _ => 0) (g 14) k)) 17 (fun _ => 1))) := hD
          refine lv_aload_n hx hb dX3_begin_37 rfl (lv_at hl 0 rfl) ?_
          refine va_get (D := D) (ci := 3) (v := .ref (q 14)) (C := RX3) (T := TX3) (N := 33) hx hb hts hinX3 hown hK hP 0 rfl rfl 14 (by decide) (hts (.fieldLink RX3 50 "TroubleCodesModel" "told" "[I") (mem_at 5 rfl)) (fun _ h9 => h9) rfl dX3_begin_38 ?_
          refine lv_iload_n hx hb dX3_begin_41 rfl (lv_at hl 1 rfl) ?_
          refine lv_iconst (v := 0) hx hb dX3_begin_42 (by decide) ?_
          refine x_iast (k := k) (f := fil (fun _ => 0) (g 14) k) (x := 0) hx hb hK hP hD hS 14 rfl (by omega) (by decide) dX3_begin_43 (fun H locs hP hD hS => ?_)
          have hP : va_P D vwCl (mW cI cZ q o (va_up (va_up (va_up g 13 (upd (fil (g 8) (g 13) k) k (g 8 k))) 14 (upd (fil (fun _ => 0) (g 14) k) k 0)) 17 (fun _ => 1))) H := hP
          have hD : va_D A (mW cI cZ q o (va_up (va_up (va_up g 13 (upd (fil (g 8) (g 13) k) k (g 8 k))) 14 (upd (fil (fun _ => 0) (g 14) k) k 0)) 17 (fun _ => 1))) := hD
          refine lv_iinc (v := nI (k + 1)) (lv' := [(1, .int (nI (k + 1))), (0, .ref o)]) hx hb dX3_begin_44 hl (k := 1) rfl (nI_1 _) (by decide) rfl (fun ls hl => ?_)
          refine lv_goto (tgt := 17) hx hb dX3_begin_47 (by decide) ?_
          have q_4 : va_up (va_up (va_up g 13 (fil (g 8) (g 13) (k + 1))) 14 (fil (fun _ => 0) (g 14) (k + 1))) 17 (fun _ => 1) = va_up (va_up (va_up g 13 (upd (fil (g 8) (g 13) k) k (g 8 k))) 14 (upd (fil (fun _ => 0) (g 14) k) k 0)) 17 (fun _ => 1) := by rw [fil_s, fil_s]
          exact ih (k + 1) (by omega) (by omega) H locs ls (by rw [q_4]; exact hP) (by rw [q_4]; exact hD) hS (by exact lv_sub hl [1, 0] rfl)
    have q_5 : (nI 0 : Int32) = 0 := by rfl
    exact LOOP_2 (n - 0 + 1) 0 (Nat.zero_le _) (Nat.lt_succ_self _) _ _ ls (by simp only [fil_0]; exact hP) (by simp only [fil_0]; exact hD) hS (by rw [q_5]; exact lv_sub hl [1, 0] rfl)
  · refine lv_bipush (v := (-3)) hx hb dX3_begin_7 (by decide) ?_
    have es : fX3_begin g n = ((-3), g) := by rw [fX3_begin]; rw [if_neg c_1]
    exact hret 9 _ _ _ _ (by rw [es]) (by rw [es]; exact hP) (by rw [es]; exact hD) hS rfl dX3_begin_9

def fX3_clear (g : Nat → Nat → Int32) (n : Nat) : Int32 × (Nat → Nat → Int32) := if (g 17 0) = 0 then (sumN (fun j => if g 1 j = 1 then 0 else if g 8 j = 0 then 0 else 1) n, va_up (va_up (va_up (va_up (va_up (va_up g 8 (clr (g 1) (g 8) n)) 9 (fil (fun _ => 0) (g 9) n)) 10 (fil (fun _ => 0) (g 10) n)) 11 (fil (fun _ => 0) (g 11) n)) 12 (fil (fun _ => 0) (g 12) n)) 21 (clr (g 1) (g 21) n)) else ((-3), g)
set_option maxHeartbeats 4000000 in
set_option maxRecDepth 100000 in
theorem tX3_clear (l : Launch) (D : va_G) (cI cZ cC : ClassId) (q : Nat → Nat) (o : Nat) (g : Nat → Nat → Int32) (n : Nat) (hn : g 0 0 = nI n) (hnb : n ≤ 16) : WrI l yX3_clear wsX3_clear (rmK 0) D cI cZ cC [.ref o] (mW cI cZ q o g) (mW cI cZ q o ((fX3_clear g n).2)) (fun ans => ans = (fX3_clear g n).1) := by
  refine WrI.of (cc := cX3_clear) (maxL := 3) (ret := .int) (by decide) rfl (Nat.le_of_ble_eq_true rfl) ?_
  intro p e s m args below meth c Q A ls hx hb hml hts hown hK hP hD hS hA hret hl
  have hl : lv_has ls 3 [(0, .ref o)] := hl
  have hinX3 : ∀ w ∈ u_ws RX3 TX3 33, w ∈ wsX3_clear := (fun w h => List.mem_cons_of_mem _ (List.mem_append_right _ h))
  refine lv_aload_n hx hb dX3_clear_0 rfl (lv_at hl 0 rfl) ?_
  refine va_get (D := D) (ci := 3) (v := .int (g 17 0)) (C := RX3) (T := TX3) (N := 33) hx hb hts hinX3 hown hK hP 0 rfl rfl 17 (by decide) (hts (.fieldLink RX3 104 "TroubleCodesModel" "goes" "Z") (mem_at 1 rfl)) (fun _ h9 => h9) rfl dX3_clear_1 ?_
  refine lv_if_eq (tgt := 10) hx hb dX3_clear_4 (by decide) (fun c_1 => ?_) (fun c_1 => ?_)
  · refine lv_iconst (v := 0) hx hb dX3_clear_10 (by decide) ?_
    refine lv_istore_n (lv' := [(1, .int 0), (0, .ref o)]) hx hb dX3_clear_11 rfl hl (by decide) rfl (fun ls hl => ?_)
    refine lv_iconst (v := 0) hx hb dX3_clear_12 (by decide) ?_
    refine lv_istore_n (lv' := [(2, .int 0), (1, .int 0), (0, .ref o)]) hx hb dX3_clear_13 rfl hl (by decide) rfl (fun ls hl => ?_)
    have LOOP_2 : ∀ (fu k : Nat), k ≤ n → n - k < fu → ∀ (H : Heap) (locs : List Loc) (ls : Array Slot), va_P D vwCl (mW cI cZ q o (va_up (va_up (va_up (va_up (va_up (va_up g 8 (clr (g 1) (g 8) k)) 9 (fil (fun _ => 0) (g 9) k)) 10 (fil (fun _ => 0) (g 10) k)) 11 (fil (fun _ => 0) (g 11) k)) 12 (fil (fun _ => 0) (g 12) k)) 21 (clr (g 1) (g 21) k))) H → va_D A (mW cI cZ q o (va_up (va_up (va_up (va_up (va_up (va_up g 8 (clr (g 1) (g 8) k)) 9 (fil (fun _ => 0) (g 9) k)) 10 (fil (fun _ => 0) (g 10) k)) 11 (fil (fun _ => 0) (g 11) k)) 12 (fil (fun _ => 0) (g 12) k)) 21 (clr (g 1) (g 21) k))) → va_S A s.heap H locs → lv_has ls 3 [(0, .ref o), (1, .int (sumN (fun j => if g 1 j = 1 then 0 else if g 8 j = 0 then 0 else 1) k)), (2, .int (nI k))] → W p l e (rmK 0) s m args below meth c H locs 0 0 Q (F0 m 14 ls []) := by
      intro fu
      induction fu with
      | zero => intro k h1 h2; exact absurd h2 (Nat.not_lt_zero _)
      | succ fu ih =>
        intro k hkn hfu  H locs ls hP hD hS hl
        refine lv_iload_n hx hb dX3_clear_14 rfl (lv_at hl 2 rfl) ?_
        refine lv_aload_n hx hb dX3_clear_15 rfl (lv_at hl 0 rfl) ?_
        refine va_get (D := D) (ci := 3) (v := .int (g 0 0)) (C := RX3) (T := TX3) (N := 33) hx hb hts hinX3 hown hK hP 0 rfl rfl 0 (by decide) (hts (.fieldLink RX3 93 "TroubleCodesModel" "checks" "I") (mem_at 2 rfl)) (fun _ h9 => h9) rfl dX3_clear_16 ?_
        refine lv_icmp_ge (tgt := 97) hx hb dX3_clear_19 (by decide) (fun c_3 => ?_) (fun c_3 => ?_)
        · have ekn : n = k := Nat.le_antisymm (kx_ge hn (by omega) (by omega) c_3) hkn
          subst ekn
          refine lv_iload_n hx hb dX3_clear_97 rfl (lv_at hl 1 rfl) ?_
          have es : fX3_clear g n = (sumN (fun j => if g 1 j = 1 then 0 else if g 8 j = 0 then 0 else 1) n, va_up (va_up (va_up (va_up (va_up (va_up g 8 (clr (g 1) (g 8) n)) 9 (fil (fun _ => 0) (g 9) n)) 10 (fil (fun _ => 0) (g 10) n)) 11 (fil (fun _ => 0) (g 11) n)) 12 (fil (fun _ => 0) (g 12) n)) 21 (clr (g 1) (g 21) n)) := by rw [fX3_clear]; rw [if_pos c_1]
          exact hret 98 _ _ _ _ (by rw [es]) (by rw [es]; exact hP) (by rw [es]; exact hD) hS rfl dX3_clear_98
        · have hkl : k < n := kx_lt hn (by omega) (by omega) c_3
          refine lv_aload_n hx hb dX3_clear_22 rfl (lv_at hl 0 rfl) ?_
          refine va_get (D := D) (ci := 3) (v := .ref (q 9)) (C := RX3) (T := TX3) (N := 33) hx hb hts hinX3 hown hK hP 0 rfl rfl 9 (by decide) (hts (.fieldLink RX3 35 "TroubleCodesModel" "bads" "[I") (mem_at 3 rfl)) (fun _ h9 => h9) rfl dX3_clear_23 ?_
          refine lv_iload_n hx hb dX3_clear_26 rfl (lv_at hl 2 rfl) ?_
          refine lv_iconst (v := 0) hx hb dX3_clear_27 (by decide) ?_
          refine x_iast (k := k) (f := fil (fun _ => 0) (g 9) k) (x := 0) hx hb hK hP hD hS 9 rfl (by omega) (by decide) dX3_clear_28 (fun H locs hP hD hS => ?_)
          have hP : va_P D vwCl (mW cI cZ q o (va_up (va_up (va_up (va_up (va_up (va_up g 8 (clr (g 1) (g 8) k)) 9 (upd (fil (fun _ => 0) (g 9) k) k 0)) 10 (fil (fun _ => 0) (g 10) k)) 11 (fil (fun _ => 0) (g 11) k)) 12 (fil (fun _ => 0) (g 12) k)) 21 (clr (g 1) (g 21) k))) H := hP
          have hD : va_D A (mW cI cZ q o (va_up (va_up (va_up (va_up (va_up (va_up g 8 (clr (g 1) (g 8) k)) 9 (upd (fil (fun _ => 0) (g 9) k) k 0)) 10 (fil (fun _ => 0) (g 10) k)) 11 (fil (fun _ => 0) (g 11) k)) 12 (fil (fun _ => 0) (g 12) k)) 21 (clr (g 1) (g 21) k))) := hD
          refine lv_aload_n hx hb dX3_clear_29 rfl (lv_at hl 0 rfl) ?_
          refine va_get (D := D) (ci := 3) (v := .ref (q 10)) (C := RX3) (T := TX3) (N := 33) hx hb hts hinX3 hown hK hP 0 rfl rfl 10 (by decide) (hts (.fieldLink RX3 38 "TroubleCodesModel" "goods" "[I") (mem_at 4 rfl)) (fun _ h9 => h9) rfl dX3_clear_30 ?_
          refine lv_iload_n hx hb dX3_clear_33 rfl (lv_at hl 2 rfl) ?_
          refine lv_iconst (v := 0) hx hb dX3_clear_34 (by decide) ?_
          refine x_iast (k := k) (f := fil (fun _ => 0) (g 10) k) (x := 0) hx hb hK hP hD hS 10 rfl (by omega) (by decide) dX3_clear_35 (fun H locs hP hD hS => ?_)
          have hP : va_P D vwCl (mW cI cZ q o (va_up (va_up (va_up (va_up (va_up (va_up g 8 (clr (g 1) (g 8) k)) 9 (upd (fil (fun _ => 0) (g 9) k) k 0)) 10 (upd (fil (fun _ => 0) (g 10) k) k 0)) 11 (fil (fun _ => 0) (g 11) k)) 12 (fil (fun _ => 0) (g 12) k)) 21 (clr (g 1) (g 21) k))) H := hP
          have hD : va_D A (mW cI cZ q o (va_up (va_up (va_up (va_up (va_up (va_up g 8 (clr (g 1) (g 8) k)) 9 (upd (fil (fun _ => 0) (g 9) k) k 0)) 10 (upd (fil (fun _ => 0) (g 10) k) k 0)) 11 (fil (fun _ => 0) (g 11) k)) 12 (fil (fun _ => 0) (g 12) k)) 21 (clr (g 1) (g 21) k))) := hD
          refine lv_aload_n hx hb dX3_clear_36 rfl (lv_at hl 0 rfl) ?_
          refine va_get (D := D) (ci := 3) (v := .ref (q 11)) (C := RX3) (T := TX3) (N := 33) hx hb hts hinX3 hown hK hP 0 rfl rfl 11 (by decide) (hts (.fieldLink RX3 41 "TroubleCodesModel" "age" "[I") (mem_at 5 rfl)) (fun _ h9 => h9) rfl dX3_clear_37 ?_
          refine lv_iload_n hx hb dX3_clear_40 rfl (lv_at hl 2 rfl) ?_
          refine lv_iconst (v := 0) hx hb dX3_clear_41 (by decide) ?_
          refine x_iast (k := k) (f := fil (fun _ => 0) (g 11) k) (x := 0) hx hb hK hP hD hS 11 rfl (by omega) (by decide) dX3_clear_42 (fun H locs hP hD hS => ?_)
          have hP : va_P D vwCl (mW cI cZ q o (va_up (va_up (va_up (va_up (va_up (va_up g 8 (clr (g 1) (g 8) k)) 9 (upd (fil (fun _ => 0) (g 9) k) k 0)) 10 (upd (fil (fun _ => 0) (g 10) k) k 0)) 11 (upd (fil (fun _ => 0) (g 11) k) k 0)) 12 (fil (fun _ => 0) (g 12) k)) 21 (clr (g 1) (g 21) k))) H := hP
          have hD : va_D A (mW cI cZ q o (va_up (va_up (va_up (va_up (va_up (va_up g 8 (clr (g 1) (g 8) k)) 9 (upd (fil (fun _ => 0) (g 9) k) k 0)) 10 (upd (fil (fun _ => 0) (g 10) k) k 0)) 11 (upd (fil (fun _ => 0) (g 11) k) k 0)) 12 (fil (fun _ => 0) (g 12) k)) 21 (clr (g 1) (g 21) k))) := hD
          refine lv_aload_n hx hb dX3_clear_43 rfl (lv_at hl 0 rfl) ?_
          refine va_get (D := D) (ci := 3) (v := .ref (q 12)) (C := RX3) (T := TX3) (N := 33) hx hb hts hinX3 hown hK hP 0 rfl rfl 12 (by decide) (hts (.fieldLink RX3 44 "TroubleCodesModel" "hasRun" "[Z") (mem_at 6 rfl)) (fun _ h9 => h9) rfl dX3_clear_44 ?_
          refine lv_iload_n hx hb dX3_clear_47 rfl (lv_at hl 2 rfl) ?_
          refine lv_iconst (v := 0) hx hb dX3_clear_48 (by decide) ?_
          refine x_zast (k := k) (f := fil (fun _ => 0) (g 12) k) (x := 0) hx hb hK hP hD hS 12 rfl (by decide) (by omega) (by decide) dX3_clear_49 (fun H locs hP hD hS => ?_)
          have hP : va_P D vwCl (mW cI cZ q o (va_up (va_up (va_up (va_up (va_up (va_up g 8 (clr (g 1) (g 8) k)) 9 (upd (fil (fun _ => 0) (g 9) k) k 0)) 10 (upd (fil (fun _ => 0) (g 10) k) k 0)) 11 (upd (fil (fun _ => 0) (g 11) k) k 0)) 12 (upd (fil (fun _ => 0) (g 12) k) k 0)) 21 (clr (g 1) (g 21) k))) H := hP
          have hD : va_D A (mW cI cZ q o (va_up (va_up (va_up (va_up (va_up (va_up g 8 (clr (g 1) (g 8) k)) 9 (upd (fil (fun _ => 0) (g 9) k) k 0)) 10 (upd (fil (fun _ => 0) (g 10) k) k 0)) 11 (upd (fil (fun _ => 0) (g 11) k) k 0)) 12 (upd (fil (fun _ => 0) (g 12) k) k 0)) 21 (clr (g 1) (g 21) k))) := hD
          refine lv_aload_n hx hb dX3_clear_50 rfl (lv_at hl 0 rfl) ?_
          refine va_get (D := D) (ci := 3) (v := .ref (q 1)) (C := RX3) (T := TX3) (N := 33) hx hb hts hinX3 hown hK hP 0 rfl rfl 1 (by decide) (hts (.fieldLink RX3 7 "TroubleCodesModel" "sort" "[I") (mem_at 7 rfl)) (fun _ h9 => h9) rfl dX3_clear_51 ?_
          refine lv_iload_n hx hb dX3_clear_54 rfl (lv_at hl 2 rfl) ?_
          refine x_iald (k := k) (f := g 1) hx hb hK hP 1 rfl (by omega) (by decide) dX3_clear_55 ?_
          refine lv_iconst (v := 1) hx hb dX3_clear_56 (by decide) ?_
          refine lv_icmp_eq (tgt := 91) hx hb dX3_clear_57 (by decide) (fun c_4 => ?_) (fun c_4 => ?_)
          · refine lv_iinc (v := nI (k + 1)) (lv' := [(2, .int (nI (k + 1))), (0, .ref o), (1, .int (sumN (fun j => if g 1 j = 1 then 0 else if g 8 j = 0 then 0 else 1) k))]) hx hb dX3_clear_91 hl (k := 2) rfl (nI_1 _) (by decide) rfl (fun ls hl => ?_)
            refine lv_goto (tgt := 14) hx hb dX3_clear_94 (by decide) ?_
            have q_5 : (sumN (fun j => if g 1 j = 1 then 0 else if g 8 j = 0 then 0 else 1) (k + 1) : Int32) = sumN (fun j => if g 1 j = 1 then 0 else if g 8 j = 0 then 0 else 1) k := by first | rfl | simp [sumN, c_1, c_3, Int32.not_le.mp c_3, c_4]
            have q_6 : va_up (va_up (va_up (va_up (va_up (va_up g 8 (clr (g 1) (g 8) (k + 1))) 9 (fil (fun _ => 0) (g 9) (k + 1))) 10 (fil (fun _ => 0) (g 10) (k + 1))) 11 (fil (fun _ => 0) (g 11) (k + 1))) 12 (fil (fun _ => 0) (g 12) (k + 1))) 21 (clr (g 1) (g 21) (k + 1)) = va_up (va_up (va_up (va_up (va_up (va_up g 8 (clr (g 1) (g 8) k)) 9 (upd (fil (fun _ => 0) (g 9) k) k 0)) 10 (upd (fil (fun _ => 0) (g 10) k) k 0)) 11 (upd (fil (fun _ => 0) (g 11) k) k 0)) 12 (upd (fil (fun _ => 0) (g 12) k) k 0)) 21 (clr (g 1) (g 21) k) := by simp only [fil_s]; rw [clr_t c_4, clr_t c_4]
            exact ih (k + 1) (by omega) (by omega) H locs ls (by rw [q_6]; exact hP) (by rw [q_6]; exact hD) hS (by rw [q_5]; exact lv_sub hl [1, 2, 0] rfl)
          · refine lv_iload_n hx hb dX3_clear_60 rfl (lv_at hl 1 rfl) ?_
            refine lv_aload_n hx hb dX3_clear_61 rfl (lv_at hl 0 rfl) ?_
            refine va_get (D := D) (ci := 3) (v := .ref (q 8)) (C := RX3) (T := TX3) (N := 33) hx hb hts hinX3 hown hK hP 0 rfl rfl 8 (by decide) (hts (.fieldLink RX3 32 "TroubleCodesModel" "code" "[I") (mem_at 8 rfl)) (fun _ h9 => h9) rfl dX3_clear_62 ?_
            refine lv_iload_n hx hb dX3_clear_65 rfl (lv_at hl 2 rfl) ?_
            refine x_iald (k := k) (f := clr (g 1) (g 8) k) hx hb hK hP 8 rfl (by omega) (by decide) dX3_clear_66 ?_
            rw [clr_k]
            refine lv_if_ne (tgt := 74) hx hb dX3_clear_67 (by decide) (fun c_7 => ?_) (fun c_7 => ?_)
            · refine lv_iconst (v := 1) hx hb dX3_clear_74 (by decide) ?_
              refine lv_iadd hx hb dX3_clear_75 ?_
              refine lv_istore_n (lv' := [(1, .int ((sumN (fun j => if g 1 j = 1 then 0 else if g 8 j = 0 then 0 else 1) k) + 1)), (0, .ref o), (2, .int (nI k))]) hx hb dX3_clear_76 rfl hl (by decide) rfl (fun ls hl => ?_)
              refine lv_aload_n hx hb dX3_clear_77 rfl (lv_at hl 1 rfl) ?_
              refine va_get (D := D) (ci := 3) (v := .ref (q 8)) (C := RX3) (T := TX3) (N := 33) hx hb hts hinX3 hown hK hP 0 rfl rfl 8 (by decide) (hts (.fieldLink RX3 32 "TroubleCodesModel" "code" "[I") (mem_at 8 rfl)) (fun _ h9 => h9) rfl dX3_clear_78 ?_
              refine lv_iload_n hx hb dX3_clear_81 rfl (lv_at hl 2 rfl) ?_
              refine lv_iconst (v := 0) hx hb dX3_clear_82 (by decide) ?_
              refine x_iast (k := k) (f := clr (g 1) (g 8) k) (x := 0) hx hb hK hP hD hS 8 rfl (by omega) (by decide) dX3_clear_83 (fun H locs hP hD hS => ?_)
              have hP : va_P D vwCl (mW cI cZ q o (va_up (va_up (va_up (va_up (va_up (va_up g 8 (upd (clr (g 1) (g 8) k) k 0)) 9 (upd (fil (fun _ => 0) (g 9) k) k 0)) 10 (upd (fil (fun _ => 0) (g 10) k) k 0)) 11 (upd (fil (fun _ => 0) (g 11) k) k 0)) 12 (upd (fil (fun _ => 0) (g 12) k) k 0)) 21 (clr (g 1) (g 21) k))) H := hP
              have hD : va_D A (mW cI cZ q o (va_up (va_up (va_up (va_up (va_up (va_up g 8 (upd (clr (g 1) (g 8) k) k 0)) 9 (upd (fil (fun _ => 0) (g 9) k) k 0)) 10 (upd (fil (fun _ => 0) (g 10) k) k 0)) 11 (upd (fil (fun _ => 0) (g 11) k) k 0)) 12 (upd (fil (fun _ => 0) (g 12) k) k 0)) 21 (clr (g 1) (g 21) k))) := hD
              refine lv_aload_n hx hb dX3_clear_84 rfl (lv_at hl 1 rfl) ?_
              refine va_get (D := D) (ci := 3) (v := .ref (q 21)) (C := RX3) (T := TX3) (N := 33) hx hb hts hinX3 hown hK hP 0 rfl rfl 21 (by decide) (hts (.fieldLink RX3 66 "TroubleCodesModel" "isFrozen" "[Z") (mem_at 9 rfl)) (fun _ h9 => h9) rfl dX3_clear_85 ?_
              refine lv_iload_n hx hb dX3_clear_88 rfl (lv_at hl 2 rfl) ?_
              refine lv_iconst (v := 0) hx hb dX3_clear_89 (by decide) ?_
              refine x_zast (k := k) (f := clr (g 1) (g 21) k) (x := 0) hx hb hK hP hD hS 18 rfl (by decide) (by omega) (by decide) dX3_clear_90 (fun H locs hP hD hS => ?_)
              have hP : va_P D vwCl (mW cI cZ q o (va_up (va_up (va_up (va_up (va_up (va_up g 8 (upd (clr (g 1) (g 8) k) k 0)) 9 (upd (fil (fun _ => 0) (g 9) k) k 0)) 10 (upd (fil (fun _ => 0) (g 10) k) k 0)) 11 (upd (fil (fun _ => 0) (g 11) k) k 0)) 12 (upd (fil (fun _ => 0) (g 12) k) k 0)) 21 (upd (clr (g 1) (g 21) k) k 0))) H := hP
              have hD : va_D A (mW cI cZ q o (va_up (va_up (va_up (va_up (va_up (va_up g 8 (upd (clr (g 1) (g 8) k) k 0)) 9 (upd (fil (fun _ => 0) (g 9) k) k 0)) 10 (upd (fil (fun _ => 0) (g 10) k) k 0)) 11 (upd (fil (fun _ => 0) (g 11) k) k 0)) 12 (upd (fil (fun _ => 0) (g 12) k) k 0)) 21 (upd (clr (g 1) (g 21) k) k 0))) := hD
              refine lv_iinc (v := nI (k + 1)) (lv' := [(2, .int (nI (k + 1))), (1, .int ((sumN (fun j => if g 1 j = 1 then 0 else if g 8 j = 0 then 0 else 1) k) + 1)), (0, .ref o)]) hx hb dX3_clear_91 hl (k := 2) rfl (nI_1 _) (by decide) rfl (fun ls hl => ?_)
              refine lv_goto (tgt := 14) hx hb dX3_clear_94 (by decide) ?_
              have q_8 : (sumN (fun j => if g 1 j = 1 then 0 else if g 8 j = 0 then 0 else 1) (k + 1) : Int32) = (sumN (fun j => if g 1 j = 1 then 0 else if g 8 j = 0 then 0 else 1) k) + 1 := by first | rfl | simp [sumN, c_1, c_3, Int32.not_le.mp c_3, c_4, c_7]
              have q_9 : va_up (va_up (va_up (va_up (va_up (va_up g 8 (clr (g 1) (g 8) (k + 1))) 9 (fil (fun _ => 0) (g 9) (k + 1))) 10 (fil (fun _ => 0) (g 10) (k + 1))) 11 (fil (fun _ => 0) (g 11) (k + 1))) 12 (fil (fun _ => 0) (g 12) (k + 1))) 21 (clr (g 1) (g 21) (k + 1)) = va_up (va_up (va_up (va_up (va_up (va_up g 8 (upd (clr (g 1) (g 8) k) k 0)) 9 (upd (fil (fun _ => 0) (g 9) k) k 0)) 10 (upd (fil (fun _ => 0) (g 10) k) k 0)) 11 (upd (fil (fun _ => 0) (g 11) k) k 0)) 12 (upd (fil (fun _ => 0) (g 12) k) k 0)) 21 (upd (clr (g 1) (g 21) k) k 0) := by simp only [fil_s]; rw [clr_f c_4, clr_f c_4]
              exact ih (k + 1) (by omega) (by omega) H locs ls (by rw [q_9]; exact hP) (by rw [q_9]; exact hD) hS (by rw [q_8]; exact lv_sub hl [2, 1, 0] rfl)
            · refine lv_iconst (v := 0) hx hb dX3_clear_70 (by decide) ?_
              refine lv_goto (tgt := 75) hx hb dX3_clear_71 (by decide) ?_
              refine lv_iadd hx hb dX3_clear_75 ?_
              refine lv_istore_n (lv' := [(1, .int ((sumN (fun j => if g 1 j = 1 then 0 else if g 8 j = 0 then 0 else 1) k) + 0)), (0, .ref o), (2, .int (nI k))]) hx hb dX3_clear_76 rfl hl (by decide) rfl (fun ls hl => ?_)
              refine lv_aload_n hx hb dX3_clear_77 rfl (lv_at hl 1 rfl) ?_
              refine va_get (D := D) (ci := 3) (v := .ref (q 8)) (C := RX3) (T := TX3) (N := 33) hx hb hts hinX3 hown hK hP 0 rfl rfl 8 (by decide) (hts (.fieldLink RX3 32 "TroubleCodesModel" "code" "[I") (mem_at 8 rfl)) (fun _ h9 => h9) rfl dX3_clear_78 ?_
              refine lv_iload_n hx hb dX3_clear_81 rfl (lv_at hl 2 rfl) ?_
              refine lv_iconst (v := 0) hx hb dX3_clear_82 (by decide) ?_
              refine x_iast (k := k) (f := clr (g 1) (g 8) k) (x := 0) hx hb hK hP hD hS 8 rfl (by omega) (by decide) dX3_clear_83 (fun H locs hP hD hS => ?_)
              have hP : va_P D vwCl (mW cI cZ q o (va_up (va_up (va_up (va_up (va_up (va_up g 8 (upd (clr (g 1) (g 8) k) k 0)) 9 (upd (fil (fun _ => 0) (g 9) k) k 0)) 10 (upd (fil (fun _ => 0) (g 10) k) k 0)) 11 (upd (fil (fun _ => 0) (g 11) k) k 0)) 12 (upd (fil (fun _ => 0) (g 12) k) k 0)) 21 (clr (g 1) (g 21) k))) H := hP
              have hD : va_D A (mW cI cZ q o (va_up (va_up (va_up (va_up (va_up (va_up g 8 (upd (clr (g 1) (g 8) k) k 0)) 9 (upd (fil (fun _ => 0) (g 9) k) k 0)) 10 (upd (fil (fun _ => 0) (g 10) k) k 0)) 11 (upd (fil (fun _ => 0) (g 11) k) k 0)) 12 (upd (fil (fun _ => 0) (g 12) k) k 0)) 21 (clr (g 1) (g 21) k))) := hD
              refine lv_aload_n hx hb dX3_clear_84 rfl (lv_at hl 1 rfl) ?_
              refine va_get (D := D) (ci := 3) (v := .ref (q 21)) (C := RX3) (T := TX3) (N := 33) hx hb hts hinX3 hown hK hP 0 rfl rfl 21 (by decide) (hts (.fieldLink RX3 66 "TroubleCodesModel" "isFrozen" "[Z") (mem_at 9 rfl)) (fun _ h9 => h9) rfl dX3_clear_85 ?_
              refine lv_iload_n hx hb dX3_clear_88 rfl (lv_at hl 2 rfl) ?_
              refine lv_iconst (v := 0) hx hb dX3_clear_89 (by decide) ?_
              refine x_zast (k := k) (f := clr (g 1) (g 21) k) (x := 0) hx hb hK hP hD hS 18 rfl (by decide) (by omega) (by decide) dX3_clear_90 (fun H locs hP hD hS => ?_)
              have hP : va_P D vwCl (mW cI cZ q o (va_up (va_up (va_up (va_up (va_up (va_up g 8 (upd (clr (g 1) (g 8) k) k 0)) 9 (upd (fil (fun _ => 0) (g 9) k) k 0)) 10 (upd (fil (fun _ => 0) (g 10) k) k 0)) 11 (upd (fil (fun _ => 0) (g 11) k) k 0)) 12 (upd (fil (fun _ => 0) (g 12) k) k 0)) 21 (upd (clr (g 1) (g 21) k) k 0))) H := hP
              have hD : va_D A (mW cI cZ q o (va_up (va_up (va_up (va_up (va_up (va_up g 8 (upd (clr (g 1) (g 8) k) k 0)) 9 (upd (fil (fun _ => 0) (g 9) k) k 0)) 10 (upd (fil (fun _ => 0) (g 10) k) k 0)) 11 (upd (fil (fun _ => 0) (g 11) k) k 0)) 12 (upd (fil (fun _ => 0) (g 12) k) k 0)) 21 (upd (clr (g 1) (g 21) k) k 0))) := hD
              refine lv_iinc (v := nI (k + 1)) (lv' := [(2, .int (nI (k + 1))), (1, .int ((sumN (fun j => if g 1 j = 1 then 0 else if g 8 j = 0 then 0 else 1) k) + 0)), (0, .ref o)]) hx hb dX3_clear_91 hl (k := 2) rfl (nI_1 _) (by decide) rfl (fun ls hl => ?_)
              refine lv_goto (tgt := 14) hx hb dX3_clear_94 (by decide) ?_
              have q_10 : (sumN (fun j => if g 1 j = 1 then 0 else if g 8 j = 0 then 0 else 1) (k + 1) : Int32) = (sumN (fun j => if g 1 j = 1 then 0 else if g 8 j = 0 then 0 else 1) k) + 0 := by first | rfl | simp [sumN, c_1, c_3, Int32.not_le.mp c_3, c_4, c_7]
              have q_11 : va_up (va_up (va_up (va_up (va_up (va_up g 8 (clr (g 1) (g 8) (k + 1))) 9 (fil (fun _ => 0) (g 9) (k + 1))) 10 (fil (fun _ => 0) (g 10) (k + 1))) 11 (fil (fun _ => 0) (g 11) (k + 1))) 12 (fil (fun _ => 0) (g 12) (k + 1))) 21 (clr (g 1) (g 21) (k + 1)) = va_up (va_up (va_up (va_up (va_up (va_up g 8 (upd (clr (g 1) (g 8) k) k 0)) 9 (upd (fil (fun _ => 0) (g 9) k) k 0)) 10 (upd (fil (fun _ => 0) (g 10) k) k 0)) 11 (upd (fil (fun _ => 0) (g 11) k) k 0)) 12 (upd (fil (fun _ => 0) (g 12) k) k 0)) 21 (upd (clr (g 1) (g 21) k) k 0) := by simp only [fil_s]; rw [clr_f c_4, clr_f c_4]
              exact ih (k + 1) (by omega) (by omega) H locs ls (by rw [q_11]; exact hP) (by rw [q_11]; exact hD) hS (by rw [q_10]; exact lv_sub hl [2, 1, 0] rfl)
    have q_12 : (sumN (fun j => if g 1 j = 1 then 0 else if g 8 j = 0 then 0 else 1) 0 : Int32) = 0 := by rfl
    have q_13 : (nI 0 : Int32) = 0 := by rfl
    exact LOOP_2 (n - 0 + 1) 0 (Nat.zero_le _) (Nat.lt_succ_self _) _ _ ls (by simp only [fil_0, clr_0]; exact hP) (by simp only [fil_0, clr_0]; exact hD) hS (by rw [q_12, q_13]; exact lv_sub hl [2, 1, 0] rfl)
  · refine lv_bipush (v := (-3)) hx hb dX3_clear_7 (by decide) ?_
    have es : fX3_clear g n = ((-3), g) := by rw [fX3_clear]; rw [if_neg c_1]
    exact hret 9 _ _ _ _ (by rw [es]) (by rw [es]; exact hP) (by rw [es]; exact hD) hS rfl dX3_clear_9

def fX3_freezes (g : Nat → Nat → Int32) (n k : Nat) : Nat → Nat → Int32 := if (sumN (fun j => if (upd (g 21) k 1) j = 0 then 0 else 1) n) ≤ (g 20 0) then (va_up (va_up (va_up (va_up (va_up g 21 (upd (g 21) k 1)) 22 (ff4 (g 19) (g 22) k 4)) 23 (upd (g 23) k (g 18 0))) 24 (upd (g 24) k (g 25 0))) 25 (fun _ => (g 25 0) + 1)) else (if (lfF (upd (g 21) k 1) (g 1) (g 6) (upd (g 24) k (g 25 0)) n) = (-1) then (va_up (va_up (va_up (va_up (va_up g 21 (upd (upd (g 21) k 1) k 0)) 22 (ff4 (g 19) (g 22) k 4)) 23 (upd (g 23) k (g 18 0))) 24 (upd (g 24) k (g 25 0))) 25 (fun _ => (g 25 0) + 1)) else (va_up (va_up (va_up (va_up (va_up g 21 (upd (upd (g 21) k 1) (ix (lfF (upd (g 21) k 1) (g 1) (g 6) (upd (g 24) k (g 25 0)) n)) 0)) 22 (ff4 (g 19) (g 22) k 4)) 23 (upd (g 23) k (g 18 0))) 24 (upd (g 24) k (g 25 0))) 25 (fun _ => (g 25 0) + 1)))
set_option maxHeartbeats 4000000 in
set_option maxRecDepth 100000 in
theorem tX3_freezes (l : Launch) (D : va_G) (cI cZ cC : ClassId) (q : Nat → Nat) (o : Nat) (g : Nat → Nat → Int32) (n : Nat) (hn : g 0 0 = nI n) (hnb : n ≤ 16) (k : Nat) (hk : k < 16) : WrV l yX3_freezes wsX3_freezes (rmK 2) D cI cZ cC [.ref o, .int (nI k)] (mW cI cZ q o g) (mW cI cZ q o (fX3_freezes g n k)) := by
  refine WrV.of (cc := cX3_freezes) (maxL := 3) (by decide) rfl (Nat.le_of_ble_eq_true rfl) ?_
  intro p e s m args below meth c Q A ls hx hb hml hts hown hK hP hD hS hA hret hl
  have hl : lv_has ls 3 [(0, .ref o), (1, .int (nI k))] := hl
  have hinX3 : ∀ w ∈ u_ws RX3 TX3 33, w ∈ wsX3_freezes := (fun w h => List.mem_cons_of_mem _ (List.mem_append_right _ h))
  refine lv_aload_n hx hb dX3_freezes_0 rfl (lv_at hl 0 rfl) ?_
  refine va_get (D := D) (ci := 3) (v := .ref (q 21)) (C := RX3) (T := TX3) (N := 33) hx hb hts hinX3 hown hK hP 0 rfl rfl 21 (by decide) (hts (.fieldLink RX3 66 "TroubleCodesModel" "isFrozen" "[Z") (mem_at 1 rfl)) (fun _ h9 => h9) rfl dX3_freezes_1 ?_
  refine lv_iload_n hx hb dX3_freezes_4 rfl (lv_at hl 1 rfl) ?_
  refine lv_iconst (v := 1) hx hb dX3_freezes_5 (by decide) ?_
  refine x_zast (k := k) (f := g 21) (x := 1) hx hb hK hP hD hS 18 rfl (by decide) (by omega) (by decide) dX3_freezes_6 (fun H locs hP hD hS => ?_)
  have hP : va_P D vwCl (mW cI cZ q o (va_up g 21 (upd (g 21) k 1))) H := hP
  have hD : va_D A (mW cI cZ q o (va_up g 21 (upd (g 21) k 1))) := hD
  refine lv_aload_n hx hb dX3_freezes_7 rfl (lv_at hl 0 rfl) ?_
  refine va_get (D := D) (ci := 3) (v := .ref (q 23)) (C := RX3) (T := TX3) (N := 33) hx hb hts hinX3 hown hK hP 0 rfl rfl 23 (by decide) (hts (.fieldLink RX3 72 "TroubleCodesModel" "frozenDrive" "[I") (mem_at 2 rfl)) (fun _ h9 => h9) rfl dX3_freezes_8 ?_
  refine lv_iload_n hx hb dX3_freezes_11 rfl (lv_at hl 1 rfl) ?_
  refine lv_aload_n hx hb dX3_freezes_12 rfl (lv_at hl 0 rfl) ?_
  refine va_get (D := D) (ci := 3) (v := .int (g 18 0)) (C := RX3) (T := TX3) (N := 33) hx hb hts hinX3 hown hK hP 0 rfl rfl 18 (by decide) (hts (.fieldLink RX3 108 "TroubleCodesModel" "drives" "I") (mem_at 3 rfl)) (fun _ h9 => h9) rfl dX3_freezes_13 ?_
  refine x_iast (k := k) (f := g 23) (x := g 18 0) hx hb hK hP hD hS 20 rfl (by omega) (by decide) dX3_freezes_16 (fun H locs hP hD hS => ?_)
  have hP : va_P D vwCl (mW cI cZ q o (va_up (va_up g 21 (upd (g 21) k 1)) 23 (upd (g 23) k (g 18 0)))) H := hP
  have hD : va_D A (mW cI cZ q o (va_up (va_up g 21 (upd (g 21) k 1)) 23 (upd (g 23) k (g 18 0)))) := hD
  refine lv_aload_n hx hb dX3_freezes_17 rfl (lv_at hl 0 rfl) ?_
  refine va_get (D := D) (ci := 3) (v := .ref (q 24)) (C := RX3) (T := TX3) (N := 33) hx hb hts hinX3 hown hK hP 0 rfl rfl 24 (by decide) (hts (.fieldLink RX3 75 "TroubleCodesModel" "frozenTurn" "[I") (mem_at 4 rfl)) (fun _ h9 => h9) rfl dX3_freezes_18 ?_
  refine lv_iload_n hx hb dX3_freezes_21 rfl (lv_at hl 1 rfl) ?_
  refine lv_aload_n hx hb dX3_freezes_22 rfl (lv_at hl 0 rfl) ?_
  refine va_get (D := D) (ci := 3) (v := .int (g 25 0)) (C := RX3) (T := TX3) (N := 33) hx hb hts hinX3 hown hK hP 0 rfl rfl 25 (by decide) (hts (.fieldLink RX3 111 "TroubleCodesModel" "turns" "I") (mem_at 5 rfl)) (fun _ h9 => h9) rfl dX3_freezes_23 ?_
  refine x_iast (k := k) (f := g 24) (x := g 25 0) hx hb hK hP hD hS 21 rfl (by omega) (by decide) dX3_freezes_26 (fun H locs hP hD hS => ?_)
  have hP : va_P D vwCl (mW cI cZ q o (va_up (va_up (va_up g 21 (upd (g 21) k 1)) 23 (upd (g 23) k (g 18 0))) 24 (upd (g 24) k (g 25 0)))) H := hP
  have hD : va_D A (mW cI cZ q o (va_up (va_up (va_up g 21 (upd (g 21) k 1)) 23 (upd (g 23) k (g 18 0))) 24 (upd (g 24) k (g 25 0)))) := hD
  refine lv_aload_n hx hb dX3_freezes_27 rfl (lv_at hl 0 rfl) ?_
  refine lv_dup hx hb dX3_freezes_28 rfl ?_
  refine va_get (D := D) (ci := 3) (v := .int (g 25 0)) (C := RX3) (T := TX3) (N := 33) hx hb hts hinX3 hown hK hP 0 rfl rfl 25 (by decide) (hts (.fieldLink RX3 111 "TroubleCodesModel" "turns" "I") (mem_at 5 rfl)) (fun _ h9 => h9) rfl dX3_freezes_29 ?_
  refine lv_iconst (v := 1) hx hb dX3_freezes_32 (by decide) ?_
  refine lv_iadd hx hb dX3_freezes_33 ?_
  refine va_put (D := D) (ci := 3) (v := .int ((g 25 0) + 1)) (ty := .int) (C := RX3) (T := TX3) (N := 33) hx hb hts hinX3 tyX3 tyX3_ok nmX3 hown hK hP hD hS 0 rfl rfl 25 (by decide) (hts (.fieldLink RX3 111 "TroubleCodesModel" "turns" "I") (mem_at 5 rfl)) (fun _ h9 => h9) rfl (by decide +kernel) rfl rfl (Nat.le_of_ble_eq_true rfl) dX3_freezes_34 (fun H locs hP hD hS => ?_)
  have hP : va_P D vwCl (mW cI cZ q o (va_up (va_up (va_up (va_up g 21 (upd (g 21) k 1)) 23 (upd (g 23) k (g 18 0))) 24 (upd (g 24) k (g 25 0))) 25 (fun _ => (g 25 0) + 1))) H := hP
  have hD : va_D A (mW cI cZ q o (va_up (va_up (va_up (va_up g 21 (upd (g 21) k 1)) 23 (upd (g 23) k (g 18 0))) 24 (upd (g 24) k (g 25 0))) 25 (fun _ => (g 25 0) + 1))) := hD
  refine lv_iconst (v := 0) hx hb dX3_freezes_37 (by decide) ?_
  refine lv_istore_n (lv' := [(2, .int 0), (0, .ref o), (1, .int (nI k))]) hx hb dX3_freezes_38 rfl hl (by decide) rfl (fun ls hl => ?_)
  have LOOP_1 : ∀ (fu i : Nat), i ≤ 4 → 4 - i < fu → ∀ (H : Heap) (locs : List Loc) (ls : Array Slot), va_P D vwCl (mW cI cZ q o (va_up (va_up (va_up (va_up (va_up g 21 (upd (g 21) k 1)) 22 (ff4 (g 19) (g 22) k i)) 23 (upd (g 23) k (g 18 0))) 24 (upd (g 24) k (g 25 0))) 25 (fun _ => (g 25 0) + 1))) H → va_D A (mW cI cZ q o (va_up (va_up (va_up (va_up (va_up g 21 (upd (g 21) k 1)) 22 (ff4 (g 19) (g 22) k i)) 23 (upd (g 23) k (g 18 0))) 24 (upd (g 24) k (g 25 0))) 25 (fun _ => (g 25 0) + 1))) → va_S A s.heap H locs → lv_has ls 3 [(0, .ref o), (1, .int (nI k)), (2, .int (nI i))] → W p l e (rmK 2) s m args below meth c H locs 0 0 Q (F0 m 39 ls []) := by
    intro fu
    induction fu with
    | zero => intro i h1 h2; exact absurd h2 (Nat.not_lt_zero _)
    | succ fu ih =>
      intro i hkn hfu  H locs ls hP hD hS hl
      refine lv_iload_n hx hb dX3_freezes_39 rfl (lv_at hl 2 rfl) ?_
      refine lv_iconst (v := 4) hx hb dX3_freezes_40 (by decide) ?_
      refine lv_icmp_ge (tgt := 66) hx hb dX3_freezes_41 (by decide) (fun c_2 => ?_) (fun c_2 => ?_)
      · have ekn : 4 = i := Nat.le_antisymm (kx_ge (x := 4) (n := 4) rfl (by omega) (by omega) c_2) hkn
        subst ekn
        refine lv_aload_n hx hb dX3_freezes_66 rfl (lv_at hl 0 rfl) ?_
        refine x_rdV (As := []) (rest := []) ⟨hx, hb, hml, hown, hts⟩ (tX3_manyFrozen l D cI cZ cC q o (va_up (va_up (va_up (va_up (va_up g 21 (upd (g 21) k 1)) 22 (ff4 (g 19) (g 22) k 4)) 23 (upd (g 23) k (g 18 0))) 24 (upd (g 24) k (g 25 0))) 25 (fun _ => (g 25 0) + 1)) n hn hnb) (cwV 0 hts gX3_freezes_X3_manyFrozen rfl rfl rfl (by decide +kernel) ⟨Nat.le_of_ble_eq_true rfl, Nat.le_of_ble_eq_true rfl⟩) hK (x_recv (ci := 3) hK hP rfl (q0 := 0) rfl) hP rfl hl.1 rfl (Nat.le_of_ble_eq_true rfl) dX3_freezes_67 ⟨Nat.le_of_ble_eq_true rfl, Nat.le_of_ble_eq_true rfl⟩ (fun r_3 er_3 => ?_)
        have er_3 : r_3 = sumN (fun j => if (upd (g 21) k 1) j = 0 then 0 else 1) n := er_3
        subst er_3
        refine lv_aload_n hx hb dX3_freezes_70 rfl (lv_at hl 0 rfl) ?_
        refine va_get (D := D) (ci := 3) (v := .int (g 20 0)) (C := RX3) (T := TX3) (N := 33) hx hb hts hinX3 hown hK hP 0 rfl rfl 20 (by decide) (hts (.fieldLink RX3 62 "TroubleCodesModel" "room" "I") (mem_at 8 rfl)) (fun _ h9 => h9) rfl dX3_freezes_71 ?_
        refine lv_icmp_le (tgt := 98) hx hb dX3_freezes_74 (by decide) (fun c_4 => ?_) (fun c_4 => ?_)
        · have es : fX3_freezes g n k = va_up (va_up (va_up (va_up (va_up g 21 (upd (g 21) k 1)) 22 (ff4 (g 19) (g 22) k 4)) 23 (upd (g 23) k (g 18 0))) 24 (upd (g 24) k (g 25 0))) 25 (fun _ => (g 25 0) + 1) := by rw [fX3_freezes]; rw [if_pos c_4]
          exact hret 98 _ _ _ (by rw [es]; exact hP) (by rw [es]; exact hD) hS dX3_freezes_98
        · refine lv_aload_n hx hb dX3_freezes_77 rfl (lv_at hl 0 rfl) ?_
          refine x_rdV (As := []) (rest := []) ⟨hx, hb, hml, hown, hts⟩ (tX3_leastFrozen l D cI cZ cC q o (va_up (va_up (va_up (va_up (va_up g 21 (upd (g 21) k 1)) 22 (ff4 (g 19) (g 22) k 4)) 23 (upd (g 23) k (g 18 0))) 24 (upd (g 24) k (g 25 0))) 25 (fun _ => (g 25 0) + 1)) n hn hnb) (cwV 0 hts gX3_freezes_X3_leastFrozen rfl rfl rfl (by decide +kernel) ⟨Nat.le_of_ble_eq_true rfl, Nat.le_of_ble_eq_true rfl⟩) hK (x_recv (ci := 3) hK hP rfl (q0 := 0) rfl) hP rfl hl.1 rfl (Nat.le_of_ble_eq_true rfl) dX3_freezes_78 ⟨Nat.le_of_ble_eq_true rfl, Nat.le_of_ble_eq_true rfl⟩ (fun r_5 er_5 => ?_)
          have er_5 : r_5 = lfF (upd (g 21) k 1) (g 1) (g 6) (upd (g 24) k (g 25 0)) n := er_5
          subst er_5
          refine lv_istore_n (lv' := [(2, .int (lfF (upd (g 21) k 1) (g 1) (g 6) (upd (g 24) k (g 25 0)) n)), (0, .ref o), (1, .int (nI k))]) hx hb dX3_freezes_81 rfl hl (by decide) rfl (fun ls hl => ?_)
          refine lv_aload_n hx hb dX3_freezes_82 rfl (lv_at hl 1 rfl) ?_
          refine va_get (D := D) (ci := 3) (v := .ref (q 21)) (C := RX3) (T := TX3) (N := 33) hx hb hts hinX3 hown hK hP 0 rfl rfl 21 (by decide) (hts (.fieldLink RX3 66 "TroubleCodesModel" "isFrozen" "[Z") (mem_at 1 rfl)) (fun _ h9 => h9) rfl dX3_freezes_83 ?_
          refine lv_iload_n hx hb dX3_freezes_86 rfl (lv_at hl 0 rfl) ?_
          refine lv_iconst (v := (-1)) hx hb dX3_freezes_87 (by decide) ?_
          refine lv_icmp_ne (tgt := 95) hx hb dX3_freezes_88 (by decide) (fun c_6 => ?_) (fun c_6 => ?_)
          · obtain ⟨jf, hj, ej, hja, -⟩ := (lf_cases (upd (g 21) k 1) (g 1) (g 6) (upd (g 24) k (g 25 0)) n).resolve_left c_6
            have eix : ix (lfF (upd (g 21) k 1) (g 1) (g 6) (upd (g 24) k (g 25 0)) n) = jf := by rw [ej]; exact ix_nI (by omega)
            refine lv_iload_n hx hb dX3_freezes_95 rfl (lv_at hl 0 rfl) ?_
            refine lv_iconst (v := 0) hx hb dX3_freezes_96 (by decide) ?_
            rw [ej]
            refine x_zast (k := jf) (f := upd (g 21) k 1) (x := 0) hx hb hK hP hD hS 18 rfl (by decide) (by omega) (by decide) dX3_freezes_97 (fun H locs hP hD hS => ?_)
            have hP : va_P D vwCl (mW cI cZ q o (va_up (va_up (va_up (va_up (va_up g 21 (upd (upd (g 21) k 1) jf 0)) 22 (ff4 (g 19) (g 22) k 4)) 23 (upd (g 23) k (g 18 0))) 24 (upd (g 24) k (g 25 0))) 25 (fun _ => (g 25 0) + 1))) H := hP
            have hD : va_D A (mW cI cZ q o (va_up (va_up (va_up (va_up (va_up g 21 (upd (upd (g 21) k 1) jf 0)) 22 (ff4 (g 19) (g 22) k 4)) 23 (upd (g 23) k (g 18 0))) 24 (upd (g 24) k (g 25 0))) 25 (fun _ => (g 25 0) + 1))) := hD
            have es : fX3_freezes g n k = va_up (va_up (va_up (va_up (va_up g 21 (upd (upd (g 21) k 1) jf 0)) 22 (ff4 (g 19) (g 22) k 4)) 23 (upd (g 23) k (g 18 0))) 24 (upd (g 24) k (g 25 0))) 25 (fun _ => (g 25 0) + 1) := by rw [fX3_freezes]; simp only [eix]; rw [if_neg c_4, if_neg c_6]
            exact hret 98 _ _ _ (by rw [es]; exact hP) (by rw [es]; exact hD) hS dX3_freezes_98
          · refine lv_iload_n hx hb dX3_freezes_91 rfl (lv_at hl 2 rfl) ?_
            refine lv_goto (tgt := 96) hx hb dX3_freezes_92 (by decide) ?_
            refine lv_iconst (v := 0) hx hb dX3_freezes_96 (by decide) ?_
            refine x_zast (k := k) (f := upd (g 21) k 1) (x := 0) hx hb hK hP hD hS 18 rfl (by decide) (by omega) (by decide) dX3_freezes_97 (fun H locs hP hD hS => ?_)
            have hP : va_P D vwCl (mW cI cZ q o (va_up (va_up (va_up (va_up (va_up g 21 (upd (upd (g 21) k 1) k 0)) 22 (ff4 (g 19) (g 22) k 4)) 23 (upd (g 23) k (g 18 0))) 24 (upd (g 24) k (g 25 0))) 25 (fun _ => (g 25 0) + 1))) H := hP
            have hD : va_D A (mW cI cZ q o (va_up (va_up (va_up (va_up (va_up g 21 (upd (upd (g 21) k 1) k 0)) 22 (ff4 (g 19) (g 22) k 4)) 23 (upd (g 23) k (g 18 0))) 24 (upd (g 24) k (g 25 0))) 25 (fun _ => (g 25 0) + 1))) := hD
            have es : fX3_freezes g n k = va_up (va_up (va_up (va_up (va_up g 21 (upd (upd (g 21) k 1) k 0)) 22 (ff4 (g 19) (g 22) k 4)) 23 (upd (g 23) k (g 18 0))) 24 (upd (g 24) k (g 25 0))) 25 (fun _ => (g 25 0) + 1) := by rw [fX3_freezes]; rw [if_neg c_4, if_pos c_6]
            exact hret 98 _ _ _ (by rw [es]; exact hP) (by rw [es]; exact hD) hS dX3_freezes_98
      · have hil : i < 4 := kx_lt (x := 4) (n := 4) rfl (by omega) (by omega) c_2
        refine lv_aload_n hx hb dX3_freezes_44 rfl (lv_at hl 0 rfl) ?_
        refine va_get (D := D) (ci := 3) (v := .ref (q 22)) (C := RX3) (T := TX3) (N := 33) hx hb hts hinX3 hown hK hP 0 rfl rfl 22 (by decide) (hts (.fieldLink RX3 69 "TroubleCodesModel" "frozenFact" "[I") (mem_at 6 rfl)) (fun _ h9 => h9) rfl dX3_freezes_45 ?_
        refine lv_iconst (v := 4) hx hb dX3_freezes_48 (by decide) ?_
        refine lv_iload_n hx hb dX3_freezes_49 rfl (lv_at hl 1 rfl) ?_
        refine lv_imul hx hb dX3_freezes_50 ?_
        refine lv_iload_n hx hb dX3_freezes_51 rfl (lv_at hl 2 rfl) ?_
        refine lv_iadd hx hb dX3_freezes_52 ?_
        refine lv_aload_n hx hb dX3_freezes_53 rfl (lv_at hl 0 rfl) ?_
        refine va_get (D := D) (ci := 3) (v := .ref (q 19)) (C := RX3) (T := TX3) (N := 33) hx hb hts hinX3 hown hK hP 0 rfl rfl 19 (by decide) (hts (.fieldLink RX3 59 "TroubleCodesModel" "fact" "[I") (mem_at 7 rfl)) (fun _ h9 => h9) rfl dX3_freezes_54 ?_
        refine lv_iload_n hx hb dX3_freezes_57 rfl (lv_at hl 2 rfl) ?_
        refine x_iald (k := i) (f := g 19) hx hb hK hP 17 rfl (by omega) (by decide) dX3_freezes_58 ?_
        rw [ix4]
        refine x_iast (k := (4 * k + i)) (f := ff4 (g 19) (g 22) k i) (x := g 19 i) hx hb hK hP hD hS 19 rfl (by omega) (by decide) dX3_freezes_59 (fun H locs hP hD hS => ?_)
        have hP : va_P D vwCl (mW cI cZ q o (va_up (va_up (va_up (va_up (va_up g 21 (upd (g 21) k 1)) 22 (upd (ff4 (g 19) (g 22) k i) (4 * k + i) (g 19 i))) 23 (upd (g 23) k (g 18 0))) 24 (upd (g 24) k (g 25 0))) 25 (fun _ => (g 25 0) + 1))) H := hP
        have hD : va_D A (mW cI cZ q o (va_up (va_up (va_up (va_up (va_up g 21 (upd (g 21) k 1)) 22 (upd (ff4 (g 19) (g 22) k i) (4 * k + i) (g 19 i))) 23 (upd (g 23) k (g 18 0))) 24 (upd (g 24) k (g 25 0))) 25 (fun _ => (g 25 0) + 1))) := hD
        refine lv_iinc (v := nI (i + 1)) (lv' := [(2, .int (nI (i + 1))), (0, .ref o), (1, .int (nI k))]) hx hb dX3_freezes_60 hl (k := 2) rfl (nI_1 _) (by decide) rfl (fun ls hl => ?_)
        refine lv_goto (tgt := 39) hx hb dX3_freezes_63 (by decide) ?_
        have q_7 : va_up (va_up (va_up (va_up (va_up g 21 (upd (g 21) k 1)) 22 (ff4 (g 19) (g 22) k (i + 1))) 23 (upd (g 23) k (g 18 0))) 24 (upd (g 24) k (g 25 0))) 25 (fun _ => (g 25 0) + 1) = va_up (va_up (va_up (va_up (va_up g 21 (upd (g 21) k 1)) 22 (upd (ff4 (g 19) (g 22) k i) (4 * k + i) (g 19 i))) 23 (upd (g 23) k (g 18 0))) 24 (upd (g 24) k (g 25 0))) 25 (fun _ => (g 25 0) + 1) := by rw [ff4_s]
        exact ih (i + 1) (by omega) (by omega) H locs ls (by rw [q_7]; exact hP) (by rw [q_7]; exact hD) hS (by exact lv_sub hl [1, 2, 0] rfl)
  have q_8 : (nI 0 : Int32) = 0 := by rfl
  exact LOOP_1 (4 - 0 + 1) 0 (Nat.zero_le _) (Nat.lt_succ_self _) _ _ ls (by rw [ff4_0]; exact hP) (by rw [ff4_0]; exact hD) hS (by rw [q_8]; exact lv_sub hl [1, 2, 0] rfl)

def fX3_room (g : Nat → Nat → Int32) (n : Nat) (r : Int32) : Int32 × (Nat → Nat → Int32) := if 1 ≤ r ∧ r ≤ 8 then (g 20 0, va_up (va_up g 20 (fun _ => r)) 21 (thw (g 1) (g 6) (g 24) r n 17 (g 21))) else (-2, g)

set_option maxHeartbeats 4000000 in
set_option maxRecDepth 100000 in
theorem tX3_room (l : Launch) (D : va_G) (cI cZ cC : ClassId) (q : Nat → Nat) (o : Nat) (g : Nat → Nat → Int32) (n : Nat) (hn : g 0 0 = nI n) (hnb : n ≤ 16) (r : Int32) : WrI l yX3_room wsX3_room (rmK 3) D cI cZ cC [.ref o, .int r] (mW cI cZ q o g) (mW cI cZ q o ((fX3_room g n r).2)) (fun ans => ans = (fX3_room g n r).1) := by
  refine WrI.of (cc := cX3_room) (maxL := 3) (ret := .int) (by decide) rfl (Nat.le_of_ble_eq_true rfl) ?_
  intro p e s m args below meth c Q A ls hx hb hml hts hown hK hP hD hS hA hret hl
  have hl : lv_has ls 3 [(0, .ref o), (1, .int r)] := hl
  have hinX3 : ∀ w ∈ u_ws RX3 TX3 33, w ∈ wsX3_room := (fun w h => List.mem_cons_of_mem _ (List.mem_append_right _ h))
  refine lv_iload_n hx hb dX3_room_0 rfl (lv_at hl 1 rfl) ?_
  refine lv_iconst (v := 1) hx hb dX3_room_1 (by decide) ?_
  refine lv_bipush (v := 8) hx hb dX3_room_2 (by decide) ?_
  refine x_rdS (As := [.int r, .int 1, .int 8]) (rest := []) ⟨hx, hb, hml, hown, hts⟩ (tX3_in l D cI cZ cC r 1 8) (va_cwS 3 hts gX3_room_X3_in rfl rfl rfl (by decide +kernel) ⟨Nat.le_of_ble_eq_true rfl, Nat.le_of_ble_eq_true rfl⟩) hK trivial rfl hl.1 rfl (Nat.le_of_ble_eq_true rfl) dX3_room_4 ⟨Nat.le_of_ble_eq_true rfl, Nat.le_of_ble_eq_true rfl⟩ (fun r_1 er_1 => ?_)
  have er_1 : r_1 = bI (1 ≤ r ∧ r ≤ 8) := er_1
  subst er_1
  refine lv_if_ne (tgt := 13) hx hb dX3_room_7 (by decide) (fun c_2 => ?_) (fun c_2 => ?_)
  · have c_2 := bI_ne c_2
    refine lv_aload_n hx hb dX3_room_13 rfl (lv_at hl 0 rfl) ?_
    refine va_get (D := D) (ci := 3) (v := .int (g 20 0)) (C := RX3) (T := TX3) (N := 33) hx hb hts hinX3 hown hK hP 0 rfl rfl 20 (by decide) (hts (.fieldLink RX3 62 "TroubleCodesModel" "room" "I") (mem_at 1 rfl)) (fun _ h9 => h9) rfl dX3_room_14 ?_
    refine lv_istore_n (lv' := [(2, .int (g 20 0)), (0, .ref o), (1, .int r)]) hx hb dX3_room_17 rfl hl (by decide) rfl (fun ls hl => ?_)
    refine lv_aload_n hx hb dX3_room_18 rfl (lv_at hl 1 rfl) ?_
    refine lv_iload_n hx hb dX3_room_19 rfl (lv_at hl 2 rfl) ?_
    refine va_put (D := D) (ci := 3) (v := .int r) (ty := .int) (C := RX3) (T := TX3) (N := 33) hx hb hts hinX3 tyX3 tyX3_ok nmX3 hown hK hP hD hS 0 rfl rfl 20 (by decide) (hts (.fieldLink RX3 62 "TroubleCodesModel" "room" "I") (mem_at 1 rfl)) (fun _ h9 => h9) rfl (by decide +kernel) rfl rfl (Nat.le_of_ble_eq_true rfl) dX3_room_20 (fun H locs hP hD hS => ?_)
    have hP : va_P D vwCl (mW cI cZ q o (va_up g 20 (fun _ => r))) H := hP
    have hD : va_D A (mW cI cZ q o (va_up g 20 (fun _ => r))) := hD
    have LOOP : ∀ (t : Nat) (a : Nat → Int32), cntN a n < t → thw (g 1) (g 6) (g 24) r n t a = thw (g 1) (g 6) (g 24) r n 17 (g 21) → ∀ (H : Heap) (locs : List Loc) (ls : Array Slot), va_P D vwCl (mW cI cZ q o (va_up (va_up g 20 (fun _ => r)) 21 a)) H → va_D A (mW cI cZ q o (va_up (va_up g 20 (fun _ => r)) 21 a)) → va_S A s.heap H locs → lv_has ls 3 [(0, .ref o), (2, .int (g 20 0))] → W p l e (rmK 3) s m args below meth c H locs 0 0 Q (F0 m 23 ls []) := by
      intro t
      induction t with
      | zero => intro a h; exact absurd h (Nat.not_lt_zero _)
      | succ t ih =>
        intro a hct hfin H locs ls hP hD hS hl
        refine lv_aload_n hx hb dX3_room_23 rfl (lv_at hl 0 rfl) ?_
        refine x_rdV (As := []) (rest := []) ⟨hx, hb, hml, hown, hts⟩ (tX3_manyFrozen l D cI cZ cC q o (va_up (va_up g 20 (fun _ => r)) 21 a) n hn hnb) (cwV 0 hts gX3_room_X3_manyFrozen rfl rfl rfl (by decide +kernel) ⟨Nat.le_of_ble_eq_true rfl, Nat.le_of_ble_eq_true rfl⟩) hK (x_recv (ci := 3) hK hP rfl (q0 := 0) rfl) hP rfl hl.1 rfl (Nat.le_of_ble_eq_true rfl) dX3_room_24 ⟨Nat.le_of_ble_eq_true rfl, Nat.le_of_ble_eq_true rfl⟩ (fun r_3 er_3 => ?_)
        have er_3 : r_3 = sumN (fun j => if a j = 0 then 0 else 1) n := er_3
        subst er_3
        refine lv_aload_n hx hb dX3_room_27 rfl (lv_at hl 0 rfl) ?_
        refine va_get (D := D) (ci := 3) (v := .int r) (C := RX3) (T := TX3) (N := 33) hx hb hts hinX3 hown hK hP 0 rfl rfl 20 (by decide) (hts (.fieldLink RX3 62 "TroubleCodesModel" "room" "I") (mem_at 1 rfl)) (fun _ h9 => h9) rfl dX3_room_28 ?_
        refine lv_icmp_le (tgt := 55) hx hb dX3_room_31 (by decide) (fun c_4 => ?_) (fun c_4 => ?_)
        · refine lv_iload_n hx hb dX3_room_55 rfl (lv_at hl 1 rfl) ?_
          have ea : thw (g 1) (g 6) (g 24) r n 17 (g 21) = a := by rw [← hfin, thw, if_neg (fun h => absurd h.1 (Int32.not_lt.mpr c_4))]
          have es : fX3_room g n r = (g 20 0, va_up (va_up g 20 (fun _ => r)) 21 a) := by rw [fX3_room]; rw [if_pos c_2, ea]
          exact hret 56 _ _ _ _ (by rw [es]) (by rw [es]; exact hP) (by rw [es]; exact hD) hS rfl dX3_room_56
        · refine lv_aload_n hx hb dX3_room_34 rfl (lv_at hl 0 rfl) ?_
          refine x_rdV (As := []) (rest := []) ⟨hx, hb, hml, hown, hts⟩ (tX3_leastFrozen l D cI cZ cC q o (va_up (va_up g 20 (fun _ => r)) 21 a) n hn hnb) (cwV 0 hts gX3_room_X3_leastFrozen rfl rfl rfl (by decide +kernel) ⟨Nat.le_of_ble_eq_true rfl, Nat.le_of_ble_eq_true rfl⟩) hK (x_recv (ci := 3) hK hP rfl (q0 := 0) rfl) hP rfl hl.1 rfl (Nat.le_of_ble_eq_true rfl) dX3_room_35 ⟨Nat.le_of_ble_eq_true rfl, Nat.le_of_ble_eq_true rfl⟩ (fun r_5 er_5 => ?_)
          have er_5 : r_5 = lfF a (g 1) (g 6) (g 24) n := er_5
          subst er_5
          refine lv_iconst (v := (-1)) hx hb dX3_room_38 (by decide) ?_
          refine lv_icmp_eq (tgt := 55) hx hb dX3_room_39 (by decide) (fun c_6 => ?_) (fun c_6 => ?_)
          · refine lv_iload_n hx hb dX3_room_55 rfl (lv_at hl 1 rfl) ?_
            have ea : thw (g 1) (g 6) (g 24) r n 17 (g 21) = a := by rw [← hfin, thw, if_neg (fun h => h.2 c_6)]
            have es : fX3_room g n r = (g 20 0, va_up (va_up g 20 (fun _ => r)) 21 a) := by rw [fX3_room]; rw [if_pos c_2, ea]
            exact hret 56 _ _ _ _ (by rw [es]) (by rw [es]; exact hP) (by rw [es]; exact hD) hS rfl dX3_room_56
          · obtain ⟨jf, hj, ej, hja, -⟩ := (lf_cases a (g 1) (g 6) (g 24) n).resolve_left c_6
            have eix : ix (lfF a (g 1) (g 6) (g 24) n) = jf := by rw [ej]; exact ix_nI (by omega)
            refine lv_aload_n hx hb dX3_room_42 rfl (lv_at hl 0 rfl) ?_
            refine va_get (D := D) (ci := 3) (v := .ref (q 21)) (C := RX3) (T := TX3) (N := 33) hx hb hts hinX3 hown hK hP 0 rfl rfl 21 (by decide) (hts (.fieldLink RX3 66 "TroubleCodesModel" "isFrozen" "[Z") (mem_at 2 rfl)) (fun _ h9 => h9) rfl dX3_room_43 ?_
            refine lv_aload_n hx hb dX3_room_46 rfl (lv_at hl 0 rfl) ?_
            refine x_rdV (As := []) (rest := [.ref (q 21)]) ⟨hx, hb, hml, hown, hts⟩ (tX3_leastFrozen l D cI cZ cC q o (va_up (va_up g 20 (fun _ => r)) 21 a) n hn hnb) (cwV 0 hts gX3_room_X3_leastFrozen rfl rfl rfl (by decide +kernel) ⟨Nat.le_of_ble_eq_true rfl, Nat.le_of_ble_eq_true rfl⟩) hK (x_recv (ci := 3) hK hP rfl (q0 := 0) rfl) hP rfl hl.1 rfl (Nat.le_of_ble_eq_true rfl) dX3_room_47 ⟨Nat.le_of_ble_eq_true rfl, Nat.le_of_ble_eq_true rfl⟩ (fun r_7 er_7 => ?_)
            have er_7 : r_7 = lfF a (g 1) (g 6) (g 24) n := er_7
            subst er_7
            refine lv_iconst (v := 0) hx hb dX3_room_50 (by decide) ?_
            rw [ej]
            refine x_zast (k := jf) (f := a) (x := 0) hx hb hK hP hD hS 18 rfl (by decide) (by omega) (by decide) dX3_room_51 (fun H locs hP hD hS => ?_)
            have hP : va_P D vwCl (mW cI cZ q o (va_up (va_up g 20 (fun _ => r)) 21 (upd a jf 0))) H := hP
            have hD : va_D A (mW cI cZ q o (va_up (va_up g 20 (fun _ => r)) 21 (upd a jf 0))) := hD
            refine lv_goto (tgt := 23) hx hb dX3_room_52 (by decide) ?_
            exact ih (upd a jf 0) (by have := cnt_upd a jf hja n hj; omega) (by rw [← hfin, thw, if_pos ⟨Int32.not_le.mp c_4, c_6⟩, eix]) H locs ls hP hD hS (lv_sub hl [0, 1] rfl)
    exact LOOP 17 (g 21) (by have := cnt_le (g 21) n; omega) rfl _ _ ls (by exact hP) (by exact hD) hS (lv_sub hl [1, 0] rfl)
  · have c_2 := bI_eq c_2
    refine lv_bipush (v := (-2)) hx hb dX3_room_10 (by decide) ?_
    have es : fX3_room g n r = (-2, g) := by rw [fX3_room]; rw [if_neg c_2]
    exact hret 12 _ _ _ _ (by rw [es]) (by rw [es]; exact hP) (by rw [es]; exact hD) hS rfl dX3_room_12
end
section
def fX3_wasBad (g : Nat → Nat → Int32) (n k : Nat) : Nat → Nat → Int32 := if (if (g 8 k) = 0 then 1 else (g 8 k)) = 2 then (va_up (va_up (va_up (va_up g 8 (upd (g 8) k (if (g 8 k) = 0 then 1 else (g 8 k)))) 9 (upd (g 9) k ((g 9 k) + 1))) 10 (upd (g 10) k 0)) 11 (upd (g 11) k 0)) else (if (g 8 k) = 3 then (if (heldF (g 1) (g 2) (upd (g 8) k (if (g 8 k) = 0 then 1 else (g 8 k))) k) = 0 then (fX3_freezes (va_up (va_up (va_up (va_up (va_up (va_up g 8 (upd (upd (g 8) k (if (g 8 k) = 0 then 1 else (g 8 k))) k 2)) 9 (upd (g 9) k ((g 9 k) + 1))) 10 (upd (g 10) k 0)) 11 (upd (g 11) k 0)) 15 (upd (g 15) k ((g 15 k) + 1))) 16 (fo16 (g 13) (g 16) k n)) n k) else (va_up (va_up (va_up (va_up g 8 (upd (g 8) k (if (g 8 k) = 0 then 1 else (g 8 k)))) 9 (upd (g 9) k ((g 9 k) + 1))) 10 (upd (g 10) k 0)) 11 (upd (g 11) k 0))) else (if ((g 9 k) + 1) < (g 3 k) then (va_up (va_up (va_up (va_up g 8 (upd (g 8) k (if (g 8 k) = 0 then 1 else (g 8 k)))) 9 (upd (g 9) k ((g 9 k) + 1))) 10 (upd (g 10) k 0)) 11 (upd (g 11) k 0)) else (if (heldF (g 1) (g 2) (upd (g 8) k (if (g 8 k) = 0 then 1 else (g 8 k))) k) = 0 then (fX3_freezes (va_up (va_up (va_up (va_up (va_up (va_up g 8 (upd (upd (g 8) k (if (g 8 k) = 0 then 1 else (g 8 k))) k 2)) 9 (upd (g 9) k ((g 9 k) + 1))) 10 (upd (g 10) k 0)) 11 (upd (g 11) k 0)) 15 (upd (g 15) k ((g 15 k) + 1))) 16 (fo16 (g 13) (g 16) k n)) n k) else (va_up (va_up (va_up (va_up g 8 (upd (g 8) k (if (g 8 k) = 0 then 1 else (g 8 k)))) 9 (upd (g 9) k ((g 9 k) + 1))) 10 (upd (g 10) k 0)) 11 (upd (g 11) k 0)))))
set_option maxHeartbeats 4000000 in
set_option maxRecDepth 100000 in
theorem tX3_wasBad (l : Launch) (D : va_G) (cI cZ cC : ClassId) (q : Nat → Nat) (o : Nat) (g : Nat → Nat → Int32) (n : Nat) (hn : g 0 0 = nI n) (hnb : n ≤ 16) (k : Nat) (hk : k < 16) (hfo : g 1 k = 2 → ∃ f, f < 16 ∧ g 2 k = nI f) : WrV l yX3_wasBad wsX3_wasBad (rmK 3) D cI cZ cC [.ref o, .int (nI k)] (mW cI cZ q o g) (mW cI cZ q o (fX3_wasBad g n k)) := by
  refine WrV.of (cc := cX3_wasBad) (maxL := 4) (by decide) rfl (Nat.le_of_ble_eq_true rfl) ?_
  intro p e s m args below meth c Q A ls hx hb hml hts hown hK hP hD hS hA hret hl
  have hl : lv_has ls 4 [(0, .ref o), (1, .int (nI k))] := hl
  have hinX3 : ∀ w ∈ u_ws RX3 TX3 33, w ∈ wsX3_wasBad := (fun w h => List.mem_cons_of_mem _ (List.mem_append_right _ h))
  refine lv_aload_n hx hb dX3_wasBad_0 rfl (lv_at hl 0 rfl) ?_
  refine va_get (D := D) (ci := 3) (v := .ref (q 10)) (C := RX3) (T := TX3) (N := 33) hx hb hts hinX3 hown hK hP 0 rfl rfl 10 (by decide) (hts (.fieldLink RX3 38 "TroubleCodesModel" "goods" "[I") (mem_at 1 rfl)) (fun _ h9 => h9) rfl dX3_wasBad_1 ?_
  refine lv_iload_n hx hb dX3_wasBad_4 rfl (lv_at hl 1 rfl) ?_
  refine lv_iconst (v := 0) hx hb dX3_wasBad_5 (by decide) ?_
  refine x_iast (k := k) (f := g 10) (x := 0) hx hb hK hP hD hS 10 rfl (by omega) (by decide) dX3_wasBad_6 (fun H locs hP hD hS => ?_)
  have hP : va_P D vwCl (mW cI cZ q o (va_up g 10 (upd (g 10) k 0))) H := hP
  have hD : va_D A (mW cI cZ q o (va_up g 10 (upd (g 10) k 0))) := hD
  refine lv_aload_n hx hb dX3_wasBad_7 rfl (lv_at hl 0 rfl) ?_
  refine va_get (D := D) (ci := 3) (v := .ref (q 11)) (C := RX3) (T := TX3) (N := 33) hx hb hts hinX3 hown hK hP 0 rfl rfl 11 (by decide) (hts (.fieldLink RX3 41 "TroubleCodesModel" "age" "[I") (mem_at 2 rfl)) (fun _ h9 => h9) rfl dX3_wasBad_8 ?_
  refine lv_iload_n hx hb dX3_wasBad_11 rfl (lv_at hl 1 rfl) ?_
  refine lv_iconst (v := 0) hx hb dX3_wasBad_12 (by decide) ?_
  refine x_iast (k := k) (f := g 11) (x := 0) hx hb hK hP hD hS 11 rfl (by omega) (by decide) dX3_wasBad_13 (fun H locs hP hD hS => ?_)
  have hP : va_P D vwCl (mW cI cZ q o (va_up (va_up g 10 (upd (g 10) k 0)) 11 (upd (g 11) k 0))) H := hP
  have hD : va_D A (mW cI cZ q o (va_up (va_up g 10 (upd (g 10) k 0)) 11 (upd (g 11) k 0))) := hD
  refine lv_aload_n hx hb dX3_wasBad_14 rfl (lv_at hl 0 rfl) ?_
  refine va_get (D := D) (ci := 3) (v := .ref (q 9)) (C := RX3) (T := TX3) (N := 33) hx hb hts hinX3 hown hK hP 0 rfl rfl 9 (by decide) (hts (.fieldLink RX3 35 "TroubleCodesModel" "bads" "[I") (mem_at 3 rfl)) (fun _ h9 => h9) rfl dX3_wasBad_15 ?_
  refine lv_iload_n hx hb dX3_wasBad_18 rfl (lv_at hl 1 rfl) ?_
  refine lv_dup2_11 hx hb dX3_wasBad_19 rfl rfl ?_
  refine x_iald (k := k) (f := g 9) hx hb hK hP 9 rfl (by omega) (by decide) dX3_wasBad_20 ?_
  refine lv_iconst (v := 1) hx hb dX3_wasBad_21 (by decide) ?_
  refine lv_iadd hx hb dX3_wasBad_22 ?_
  refine x_iast (k := k) (f := g 9) (x := (g 9 k) + 1) hx hb hK hP hD hS 9 rfl (by omega) (by decide) dX3_wasBad_23 (fun H locs hP hD hS => ?_)
  have hP : va_P D vwCl (mW cI cZ q o (va_up (va_up (va_up g 9 (upd (g 9) k ((g 9 k) + 1))) 10 (upd (g 10) k 0)) 11 (upd (g 11) k 0))) H := hP
  have hD : va_D A (mW cI cZ q o (va_up (va_up (va_up g 9 (upd (g 9) k ((g 9 k) + 1))) 10 (upd (g 10) k 0)) 11 (upd (g 11) k 0))) := hD
  refine lv_aload_n hx hb dX3_wasBad_24 rfl (lv_at hl 0 rfl) ?_
  refine va_get (D := D) (ci := 3) (v := .ref (q 8)) (C := RX3) (T := TX3) (N := 33) hx hb hts hinX3 hown hK hP 0 rfl rfl 8 (by decide) (hts (.fieldLink RX3 32 "TroubleCodesModel" "code" "[I") (mem_at 4 rfl)) (fun _ h9 => h9) rfl dX3_wasBad_25 ?_
  refine lv_iload_n hx hb dX3_wasBad_28 rfl (lv_at hl 1 rfl) ?_
  refine x_iald (k := k) (f := g 8) hx hb hK hP 8 rfl (by omega) (by decide) dX3_wasBad_29 ?_
  refine lv_iconst (v := 3) hx hb dX3_wasBad_30 (by decide) ?_
  have J39_0 : W p l e (rmK 3) s m args below meth c H locs 0 0 Q (F0 m 39 ls [.int (bI ((g 8 k) = 3))]) := by
    refine lv_istore_n (lv' := [(2, .int (bI ((g 8 k) = 3))), (0, .ref o), (1, .int (nI k))]) hx hb dX3_wasBad_39 rfl hl (by decide) rfl (fun ls hl => ?_)
    refine lv_aload_n hx hb dX3_wasBad_40 rfl (lv_at hl 1 rfl) ?_
    refine va_get (D := D) (ci := 3) (v := .ref (q 8)) (C := RX3) (T := TX3) (N := 33) hx hb hts hinX3 hown hK hP 0 rfl rfl 8 (by decide) (hts (.fieldLink RX3 32 "TroubleCodesModel" "code" "[I") (mem_at 4 rfl)) (fun _ h9 => h9) rfl dX3_wasBad_41 ?_
    refine lv_iload_n hx hb dX3_wasBad_44 rfl (lv_at hl 2 rfl) ?_
    refine lv_aload_n hx hb dX3_wasBad_45 rfl (lv_at hl 1 rfl) ?_
    refine va_get (D := D) (ci := 3) (v := .ref (q 8)) (C := RX3) (T := TX3) (N := 33) hx hb hts hinX3 hown hK hP 0 rfl rfl 8 (by decide) (hts (.fieldLink RX3 32 "TroubleCodesModel" "code" "[I") (mem_at 4 rfl)) (fun _ h9 => h9) rfl dX3_wasBad_46 ?_
    refine lv_iload_n hx hb dX3_wasBad_49 rfl (lv_at hl 2 rfl) ?_
    refine x_iald (k := k) (f := g 8) hx hb hK hP 8 rfl (by omega) (by decide) dX3_wasBad_50 ?_
    have J64_1 : W p l e (rmK 3) s m args below meth c H locs 0 0 Q (F0 m 64 ls [.int (if (g 8 k) = 0 then 1 else (g 8 k)), .int (nI k), .ref (q 8)]) := by
      refine x_iast (k := k) (f := g 8) (x := if (g 8 k) = 0 then 1 else (g 8 k)) hx hb hK hP hD hS 8 rfl (by omega) (by decide) dX3_wasBad_64 (fun H locs hP hD hS => ?_)
      have hP : va_P D vwCl (mW cI cZ q o (va_up (va_up (va_up (va_up g 8 (upd (g 8) k (if (g 8 k) = 0 then 1 else (g 8 k)))) 9 (upd (g 9) k ((g 9 k) + 1))) 10 (upd (g 10) k 0)) 11 (upd (g 11) k 0))) H := hP
      have hD : va_D A (mW cI cZ q o (va_up (va_up (va_up (va_up g 8 (upd (g 8) k (if (g 8 k) = 0 then 1 else (g 8 k)))) 9 (upd (g 9) k ((g 9 k) + 1))) 10 (upd (g 10) k 0)) 11 (upd (g 11) k 0))) := hD
      refine lv_aload_n hx hb dX3_wasBad_65 rfl (lv_at hl 1 rfl) ?_
      refine va_get (D := D) (ci := 3) (v := .ref (q 8)) (C := RX3) (T := TX3) (N := 33) hx hb hts hinX3 hown hK hP 0 rfl rfl 8 (by decide) (hts (.fieldLink RX3 32 "TroubleCodesModel" "code" "[I") (mem_at 4 rfl)) (fun _ h9 => h9) rfl dX3_wasBad_66 ?_
      refine lv_iload_n hx hb dX3_wasBad_69 rfl (lv_at hl 2 rfl) ?_
      refine x_iald (k := k) (f := upd (g 8) k (if (g 8 k) = 0 then 1 else (g 8 k))) hx hb hK hP 8 rfl (by omega) (by decide) dX3_wasBad_70 ?_
      rw [pk_us]
      refine lv_iconst (v := 2) hx hb dX3_wasBad_71 (by decide) ?_
      refine lv_icmp_eq (tgt := 179) hx hb dX3_wasBad_72 (by decide) (fun c_3 => ?_) (fun c_3 => ?_)
      · have es : fX3_wasBad g n k = va_up (va_up (va_up (va_up g 8 (upd (g 8) k (if (g 8 k) = 0 then 1 else (g 8 k)))) 9 (upd (g 9) k ((g 9 k) + 1))) 10 (upd (g 10) k 0)) 11 (upd (g 11) k 0) := by rw [fX3_wasBad]; rw [if_pos c_3]
        exact hret 179 _ _ _ (by rw [es]; exact hP) (by rw [es]; exact hD) hS dX3_wasBad_179
      · refine lv_iload_n hx hb dX3_wasBad_75 rfl (lv_at hl 0 rfl) ?_
        refine lv_if_ne (tgt := 94) hx hb dX3_wasBad_76 (by decide) (fun c_4 => ?_) (fun c_4 => ?_)
        · have c_4 := bI_ne c_4
          refine lv_aload_n hx hb dX3_wasBad_94 rfl (lv_at hl 1 rfl) ?_
          refine lv_iload_n hx hb dX3_wasBad_95 rfl (lv_at hl 2 rfl) ?_
          refine x_rdV (As := [.int (nI k)]) (rest := []) ⟨hx, hb, hml, hown, hts⟩ (tX3_isHeld l D cI cZ cC q o (va_up (va_up (va_up (va_up g 8 (upd (g 8) k (if (g 8 k) = 0 then 1 else (g 8 k)))) 9 (upd (g 9) k ((g 9 k) + 1))) 10 (upd (g 10) k 0)) 11 (upd (g 11) k 0)) k hk hfo) (cwV 1 hts gX3_wasBad_X3_isHeld rfl rfl rfl (by decide +kernel) ⟨Nat.le_of_ble_eq_true rfl, Nat.le_of_ble_eq_true rfl⟩) hK (x_recv (ci := 3) hK hP rfl (q0 := 0) rfl) hP rfl hl.1 rfl (Nat.le_of_ble_eq_true rfl) dX3_wasBad_96 ⟨Nat.le_of_ble_eq_true rfl, Nat.le_of_ble_eq_true rfl⟩ (fun r_5 er_5 => ?_)
          have er_5 : r_5 = heldF (g 1) (g 2) (upd (g 8) k (if (g 8 k) = 0 then 1 else (g 8 k))) k := er_5
          subst er_5
          refine lv_if_ne (tgt := 179) hx hb dX3_wasBad_99 (by decide) (fun c_6 => ?_) (fun c_6 => ?_)
          · have es : fX3_wasBad g n k = va_up (va_up (va_up (va_up g 8 (upd (g 8) k (if (g 8 k) = 0 then 1 else (g 8 k)))) 9 (upd (g 9) k ((g 9 k) + 1))) 10 (upd (g 10) k 0)) 11 (upd (g 11) k 0) := by rw [fX3_wasBad]; rw [if_neg c_3, if_pos c_4, if_neg c_6]
            exact hret 179 _ _ _ (by rw [es]; exact hP) (by rw [es]; exact hD) hS dX3_wasBad_179
          · refine lv_aload_n hx hb dX3_wasBad_102 rfl (lv_at hl 1 rfl) ?_
            refine va_get (D := D) (ci := 3) (v := .ref (q 8)) (C := RX3) (T := TX3) (N := 33) hx hb hts hinX3 hown hK hP 0 rfl rfl 8 (by decide) (hts (.fieldLink RX3 32 "TroubleCodesModel" "code" "[I") (mem_at 4 rfl)) (fun _ h9 => h9) rfl dX3_wasBad_103 ?_
            refine lv_iload_n hx hb dX3_wasBad_106 rfl (lv_at hl 2 rfl) ?_
            refine lv_iconst (v := 2) hx hb dX3_wasBad_107 (by decide) ?_
            refine x_iast (k := k) (f := upd (g 8) k (if (g 8 k) = 0 then 1 else (g 8 k))) (x := 2) hx hb hK hP hD hS 8 rfl (by omega) (by decide) dX3_wasBad_108 (fun H locs hP hD hS => ?_)
            have hP : va_P D vwCl (mW cI cZ q o (va_up (va_up (va_up (va_up g 8 (upd (upd (g 8) k (if (g 8 k) = 0 then 1 else (g 8 k))) k 2)) 9 (upd (g 9) k ((g 9 k) + 1))) 10 (upd (g 10) k 0)) 11 (upd (g 11) k 0))) H := hP
            have hD : va_D A (mW cI cZ q o (va_up (va_up (va_up (va_up g 8 (upd (upd (g 8) k (if (g 8 k) = 0 then 1 else (g 8 k))) k 2)) 9 (upd (g 9) k ((g 9 k) + 1))) 10 (upd (g 10) k 0)) 11 (upd (g 11) k 0))) := hD
            refine lv_aload_n hx hb dX3_wasBad_109 rfl (lv_at hl 1 rfl) ?_
            refine va_get (D := D) (ci := 3) (v := .ref (q 15)) (C := RX3) (T := TX3) (N := 33) hx hb hts hinX3 hown hK hP 0 rfl rfl 15 (by decide) (hts (.fieldLink RX3 53 "TroubleCodesModel" "sets" "[I") (mem_at 6 rfl)) (fun _ h9 => h9) rfl dX3_wasBad_110 ?_
            refine lv_iload_n hx hb dX3_wasBad_113 rfl (lv_at hl 2 rfl) ?_
            refine lv_dup2_11 hx hb dX3_wasBad_114 rfl rfl ?_
            refine x_iald (k := k) (f := g 15) hx hb hK hP 15 rfl (by omega) (by decide) dX3_wasBad_115 ?_
            refine lv_iconst (v := 1) hx hb dX3_wasBad_116 (by decide) ?_
            refine lv_iadd hx hb dX3_wasBad_117 ?_
            refine x_iast (k := k) (f := g 15) (x := (g 15 k) + 1) hx hb hK hP hD hS 15 rfl (by omega) (by decide) dX3_wasBad_118 (fun H locs hP hD hS => ?_)
            have hP : va_P D vwCl (mW cI cZ q o (va_up (va_up (va_up (va_up (va_up g 8 (upd (upd (g 8) k (if (g 8 k) = 0 then 1 else (g 8 k))) k 2)) 9 (upd (g 9) k ((g 9 k) + 1))) 10 (upd (g 10) k 0)) 11 (upd (g 11) k 0)) 15 (upd (g 15) k ((g 15 k) + 1)))) H := hP
            have hD : va_D A (mW cI cZ q o (va_up (va_up (va_up (va_up (va_up g 8 (upd (upd (g 8) k (if (g 8 k) = 0 then 1 else (g 8 k))) k 2)) 9 (upd (g 9) k ((g 9 k) + 1))) 10 (upd (g 10) k 0)) 11 (upd (g 11) k 0)) 15 (upd (g 15) k ((g 15 k) + 1)))) := hD
            refine lv_iconst (v := 0) hx hb dX3_wasBad_119 (by decide) ?_
            refine lv_istore_n (lv' := [(3, .int 0), (2, .int (bI ((g 8 k) = 3))), (0, .ref o), (1, .int (nI k))]) hx hb dX3_wasBad_120 rfl hl (by decide) rfl (fun ls hl => ?_)
            have LOOP_7 : ∀ (fu i : Nat), i ≤ n → n - i < fu → ∀ (H : Heap) (locs : List Loc) (ls : Array Slot), va_P D vwCl (mW cI cZ q o (va_up (va_up (va_up (va_up (va_up (va_up g 8 (upd (upd (g 8) k (if (g 8 k) = 0 then 1 else (g 8 k))) k 2)) 9 (upd (g 9) k ((g 9 k) + 1))) 10 (upd (g 10) k 0)) 11 (upd (g 11) k 0)) 15 (upd (g 15) k ((g 15 k) + 1))) 16 (fo16 (g 13) (g 16) k i))) H → va_D A (mW cI cZ q o (va_up (va_up (va_up (va_up (va_up (va_up g 8 (upd (upd (g 8) k (if (g 8 k) = 0 then 1 else (g 8 k))) k 2)) 9 (upd (g 9) k ((g 9 k) + 1))) 10 (upd (g 10) k 0)) 11 (upd (g 11) k 0)) 15 (upd (g 15) k ((g 15 k) + 1))) 16 (fo16 (g 13) (g 16) k i))) → va_S A s.heap H locs → lv_has ls 4 [(0, .ref o), (1, .int (nI k)), (3, .int (nI i))] → W p l e (rmK 3) s m args below meth c H locs 0 0 Q (F0 m 121 ls []) := by
              intro fu
              induction fu with
              | zero => intro i h1 h2; exact absurd h2 (Nat.not_lt_zero _)
              | succ fu ih =>
                intro i hkn hfu  H locs ls hP hD hS hl
                refine lv_iload_n hx hb dX3_wasBad_121 rfl (lv_at hl 2 rfl) ?_
                refine lv_aload_n hx hb dX3_wasBad_122 rfl (lv_at hl 0 rfl) ?_
                refine va_get (D := D) (ci := 3) (v := .int (g 0 0)) (C := RX3) (T := TX3) (N := 33) hx hb hts hinX3 hown hK hP 0 rfl rfl 0 (by decide) (hts (.fieldLink RX3 93 "TroubleCodesModel" "checks" "I") (mem_at 7 rfl)) (fun _ h9 => h9) rfl dX3_wasBad_123 ?_
                refine lv_icmp_ge (tgt := 174) hx hb dX3_wasBad_126 (by decide) (fun c_8 => ?_) (fun c_8 => ?_)
                · have ekn : n = i := Nat.le_antisymm (kx_ge hn (by omega) (by omega) c_8) hkn
                  subst ekn
                  refine lv_aload_n hx hb dX3_wasBad_174 rfl (lv_at hl 0 rfl) ?_
                  refine lv_iload_n hx hb dX3_wasBad_175 rfl (lv_at hl 1 rfl) ?_
                  refine x_wvW (As := [.int (nI k)]) (rest := []) ⟨hx, hb, hml, hown, hts⟩ (tX3_freezes l D cI cZ cC q o (va_up (va_up (va_up (va_up (va_up (va_up g 8 (upd (upd (g 8) k (if (g 8 k) = 0 then 1 else (g 8 k))) k 2)) 9 (upd (g 9) k ((g 9 k) + 1))) 10 (upd (g 10) k 0)) 11 (upd (g 11) k 0)) 15 (upd (g 15) k ((g 15 k) + 1))) 16 (fo16 (g 13) (g 16) k n)) n hn hnb k hk) (cwV 1 hts gX3_wasBad_X3_freezes rfl rfl rfl (by decide +kernel) ⟨Nat.le_of_ble_eq_true rfl, Nat.le_of_ble_eq_true rfl⟩) hK (x_recv (ci := 3) hK hP rfl (q0 := 0) rfl) hP hD hS hA rfl hl.1 rfl (Nat.le_of_ble_eq_true rfl) dX3_wasBad_176 ⟨Nat.le_of_ble_eq_true rfl, Nat.le_of_ble_eq_true rfl⟩ (fun H locs hP hD hS => ?_)
                  have es : fX3_wasBad g n k = (fX3_freezes (va_up (va_up (va_up (va_up (va_up (va_up g 8 (upd (upd (g 8) k (if (g 8 k) = 0 then 1 else (g 8 k))) k 2)) 9 (upd (g 9) k ((g 9 k) + 1))) 10 (upd (g 10) k 0)) 11 (upd (g 11) k 0)) 15 (upd (g 15) k ((g 15 k) + 1))) 16 (fo16 (g 13) (g 16) k n)) n k) := by rw [fX3_wasBad]; rw [if_neg c_3, if_pos c_4, if_pos c_6]
                  exact hret 179 _ _ _ (by rw [es]; exact hP) (by rw [es]; exact hD) hS dX3_wasBad_179
                · have hil : i < n := kx_lt hn (by omega) (by omega) c_8
                  refine lv_aload_n hx hb dX3_wasBad_129 rfl (lv_at hl 0 rfl) ?_
                  refine va_get (D := D) (ci := 3) (v := .ref (q 16)) (C := RX3) (T := TX3) (N := 33) hx hb hts hinX3 hown hK hP 0 rfl rfl 16 (by decide) (hts (.fieldLink RX3 56 "TroubleCodesModel" "foretold" "[I") (mem_at 8 rfl)) (fun _ h9 => h9) rfl dX3_wasBad_130 ?_
                  refine lv_bipush (v := 16) hx hb dX3_wasBad_133 (by decide) ?_
                  refine lv_iload_n hx hb dX3_wasBad_135 rfl (lv_at hl 2 rfl) ?_
                  refine lv_imul hx hb dX3_wasBad_136 ?_
                  refine lv_iload_n hx hb dX3_wasBad_137 rfl (lv_at hl 1 rfl) ?_
                  refine lv_iadd hx hb dX3_wasBad_138 ?_
                  rw [ix16]
                  refine lv_dup2_11 hx hb dX3_wasBad_139 rfl rfl ?_
                  refine x_iald (k := (16 * i + k)) (f := fo16 (g 13) (g 16) k i) hx hb hK hP 16 rfl (by omega) (by decide) dX3_wasBad_140 ?_
                  rw [fo16_k hk]
                  refine lv_aload_n hx hb dX3_wasBad_141 rfl (lv_at hl 0 rfl) ?_
                  refine va_get (D := D) (ci := 3) (v := .ref (q 13)) (C := RX3) (T := TX3) (N := 33) hx hb hts hinX3 hown hK hP 0 rfl rfl 13 (by decide) (hts (.fieldLink RX3 47 "TroubleCodesModel" "begun" "[I") (mem_at 9 rfl)) (fun _ h9 => h9) rfl dX3_wasBad_142 ?_
                  refine lv_iload_n hx hb dX3_wasBad_145 rfl (lv_at hl 2 rfl) ?_
                  refine x_iald (k := i) (f := g 13) hx hb hK hP 13 rfl (by omega) (by decide) dX3_wasBad_146 ?_
                  refine lv_iconst (v := 1) hx hb dX3_wasBad_147 (by decide) ?_
                  refine lv_icmp_eq (tgt := 161) hx hb dX3_wasBad_148 (by decide) (fun c_9 => ?_) (fun c_9 => ?_)
                  · refine lv_iconst (v := 1) hx hb dX3_wasBad_161 (by decide) ?_
                    refine lv_goto (tgt := 166) hx hb dX3_wasBad_162 (by decide) ?_
                    refine lv_iadd hx hb dX3_wasBad_166 ?_
                    refine x_iast (k := (16 * i + k)) (f := fo16 (g 13) (g 16) k i) (x := (g 16 (16 * i + k)) + 1) hx hb hK hP hD hS 16 rfl (by omega) (by decide) dX3_wasBad_167 (fun H locs hP hD hS => ?_)
                    have hP : va_P D vwCl (mW cI cZ q o (va_up (va_up (va_up (va_up (va_up (va_up g 8 (upd (upd (g 8) k (if (g 8 k) = 0 then 1 else (g 8 k))) k 2)) 9 (upd (g 9) k ((g 9 k) + 1))) 10 (upd (g 10) k 0)) 11 (upd (g 11) k 0)) 15 (upd (g 15) k ((g 15 k) + 1))) 16 (upd (fo16 (g 13) (g 16) k i) (16 * i + k) ((g 16 (16 * i + k)) + 1)))) H := hP
                    have hD : va_D A (mW cI cZ q o (va_up (va_up (va_up (va_up (va_up (va_up g 8 (upd (upd (g 8) k (if (g 8 k) = 0 then 1 else (g 8 k))) k 2)) 9 (upd (g 9) k ((g 9 k) + 1))) 10 (upd (g 10) k 0)) 11 (upd (g 11) k 0)) 15 (upd (g 15) k ((g 15 k) + 1))) 16 (upd (fo16 (g 13) (g 16) k i) (16 * i + k) ((g 16 (16 * i + k)) + 1)))) := hD
                    refine lv_iinc (v := nI (i + 1)) (lv' := [(3, .int (nI (i + 1))), (0, .ref o), (1, .int (nI k))]) hx hb dX3_wasBad_168 hl (k := 2) rfl (nI_1 _) (by decide) rfl (fun ls hl => ?_)
                    refine lv_goto (tgt := 121) hx hb dX3_wasBad_171 (by decide) ?_
                    have q_10 : va_up (va_up (va_up (va_up (va_up (va_up g 8 (upd (upd (g 8) k (if (g 8 k) = 0 then 1 else (g 8 k))) k 2)) 9 (upd (g 9) k ((g 9 k) + 1))) 10 (upd (g 10) k 0)) 11 (upd (g 11) k 0)) 15 (upd (g 15) k ((g 15 k) + 1))) 16 (fo16 (g 13) (g 16) k (i + 1)) = va_up (va_up (va_up (va_up (va_up (va_up g 8 (upd (upd (g 8) k (if (g 8 k) = 0 then 1 else (g 8 k))) k 2)) 9 (upd (g 9) k ((g 9 k) + 1))) 10 (upd (g 10) k 0)) 11 (upd (g 11) k 0)) 15 (upd (g 15) k ((g 15 k) + 1))) 16 (upd (fo16 (g 13) (g 16) k i) (16 * i + k) ((g 16 (16 * i + k)) + 1)) := by rw [fo16_s hk, if_pos c_9]
                    exact ih (i + 1) (by omega) (by omega) H locs ls (by rw [q_10]; exact hP) (by rw [q_10]; exact hD) hS (by exact lv_sub hl [1, 2, 0] rfl)
                  · refine lv_aload_n hx hb dX3_wasBad_151 rfl (lv_at hl 0 rfl) ?_
                    refine va_get (D := D) (ci := 3) (v := .ref (q 13)) (C := RX3) (T := TX3) (N := 33) hx hb hts hinX3 hown hK hP 0 rfl rfl 13 (by decide) (hts (.fieldLink RX3 47 "TroubleCodesModel" "begun" "[I") (mem_at 9 rfl)) (fun _ h9 => h9) rfl dX3_wasBad_152 ?_
                    refine lv_iload_n hx hb dX3_wasBad_155 rfl (lv_at hl 2 rfl) ?_
                    refine x_iald (k := i) (f := g 13) hx hb hK hP 13 rfl (by omega) (by decide) dX3_wasBad_156 ?_
                    refine lv_iconst (v := 2) hx hb dX3_wasBad_157 (by decide) ?_
                    refine lv_icmp_ne (tgt := 165) hx hb dX3_wasBad_158 (by decide) (fun c_11 => ?_) (fun c_11 => ?_)
                    · refine lv_iconst (v := 0) hx hb dX3_wasBad_165 (by decide) ?_
                      refine lv_iadd hx hb dX3_wasBad_166 ?_
                      refine x_iast (k := (16 * i + k)) (f := fo16 (g 13) (g 16) k i) (x := (g 16 (16 * i + k)) + 0) hx hb hK hP hD hS 16 rfl (by omega) (by decide) dX3_wasBad_167 (fun H locs hP hD hS => ?_)
                      have hP : va_P D vwCl (mW cI cZ q o (va_up (va_up (va_up (va_up (va_up (va_up g 8 (upd (upd (g 8) k (if (g 8 k) = 0 then 1 else (g 8 k))) k 2)) 9 (upd (g 9) k ((g 9 k) + 1))) 10 (upd (g 10) k 0)) 11 (upd (g 11) k 0)) 15 (upd (g 15) k ((g 15 k) + 1))) 16 (upd (fo16 (g 13) (g 16) k i) (16 * i + k) ((g 16 (16 * i + k)) + 0)))) H := hP
                      have hD : va_D A (mW cI cZ q o (va_up (va_up (va_up (va_up (va_up (va_up g 8 (upd (upd (g 8) k (if (g 8 k) = 0 then 1 else (g 8 k))) k 2)) 9 (upd (g 9) k ((g 9 k) + 1))) 10 (upd (g 10) k 0)) 11 (upd (g 11) k 0)) 15 (upd (g 15) k ((g 15 k) + 1))) 16 (upd (fo16 (g 13) (g 16) k i) (16 * i + k) ((g 16 (16 * i + k)) + 0)))) := hD
                      refine lv_iinc (v := nI (i + 1)) (lv' := [(3, .int (nI (i + 1))), (0, .ref o), (1, .int (nI k))]) hx hb dX3_wasBad_168 hl (k := 2) rfl (nI_1 _) (by decide) rfl (fun ls hl => ?_)
                      refine lv_goto (tgt := 121) hx hb dX3_wasBad_171 (by decide) ?_
                      have q_12 : va_up (va_up (va_up (va_up (va_up (va_up g 8 (upd (upd (g 8) k (if (g 8 k) = 0 then 1 else (g 8 k))) k 2)) 9 (upd (g 9) k ((g 9 k) + 1))) 10 (upd (g 10) k 0)) 11 (upd (g 11) k 0)) 15 (upd (g 15) k ((g 15 k) + 1))) 16 (fo16 (g 13) (g 16) k (i + 1)) = va_up (va_up (va_up (va_up (va_up (va_up g 8 (upd (upd (g 8) k (if (g 8 k) = 0 then 1 else (g 8 k))) k 2)) 9 (upd (g 9) k ((g 9 k) + 1))) 10 (upd (g 10) k 0)) 11 (upd (g 11) k 0)) 15 (upd (g 15) k ((g 15 k) + 1))) 16 (upd (fo16 (g 13) (g 16) k i) (16 * i + k) ((g 16 (16 * i + k)) + 0)) := by rw [fo16_s hk, if_neg c_9, if_neg c_11]
                      exact ih (i + 1) (by omega) (by omega) H locs ls (by rw [q_12]; exact hP) (by rw [q_12]; exact hD) hS (by exact lv_sub hl [1, 2, 0] rfl)
                    · refine lv_iconst (v := 1) hx hb dX3_wasBad_161 (by decide) ?_
                      refine lv_goto (tgt := 166) hx hb dX3_wasBad_162 (by decide) ?_
                      refine lv_iadd hx hb dX3_wasBad_166 ?_
                      refine x_iast (k := (16 * i + k)) (f := fo16 (g 13) (g 16) k i) (x := (g 16 (16 * i + k)) + 1) hx hb hK hP hD hS 16 rfl (by omega) (by decide) dX3_wasBad_167 (fun H locs hP hD hS => ?_)
                      have hP : va_P D vwCl (mW cI cZ q o (va_up (va_up (va_up (va_up (va_up (va_up g 8 (upd (upd (g 8) k (if (g 8 k) = 0 then 1 else (g 8 k))) k 2)) 9 (upd (g 9) k ((g 9 k) + 1))) 10 (upd (g 10) k 0)) 11 (upd (g 11) k 0)) 15 (upd (g 15) k ((g 15 k) + 1))) 16 (upd (fo16 (g 13) (g 16) k i) (16 * i + k) ((g 16 (16 * i + k)) + 1)))) H := hP
                      have hD : va_D A (mW cI cZ q o (va_up (va_up (va_up (va_up (va_up (va_up g 8 (upd (upd (g 8) k (if (g 8 k) = 0 then 1 else (g 8 k))) k 2)) 9 (upd (g 9) k ((g 9 k) + 1))) 10 (upd (g 10) k 0)) 11 (upd (g 11) k 0)) 15 (upd (g 15) k ((g 15 k) + 1))) 16 (upd (fo16 (g 13) (g 16) k i) (16 * i + k) ((g 16 (16 * i + k)) + 1)))) := hD
                      refine lv_iinc (v := nI (i + 1)) (lv' := [(3, .int (nI (i + 1))), (0, .ref o), (1, .int (nI k))]) hx hb dX3_wasBad_168 hl (k := 2) rfl (nI_1 _) (by decide) rfl (fun ls hl => ?_)
                      refine lv_goto (tgt := 121) hx hb dX3_wasBad_171 (by decide) ?_
                      have q_13 : va_up (va_up (va_up (va_up (va_up (va_up g 8 (upd (upd (g 8) k (if (g 8 k) = 0 then 1 else (g 8 k))) k 2)) 9 (upd (g 9) k ((g 9 k) + 1))) 10 (upd (g 10) k 0)) 11 (upd (g 11) k 0)) 15 (upd (g 15) k ((g 15 k) + 1))) 16 (fo16 (g 13) (g 16) k (i + 1)) = va_up (va_up (va_up (va_up (va_up (va_up g 8 (upd (upd (g 8) k (if (g 8 k) = 0 then 1 else (g 8 k))) k 2)) 9 (upd (g 9) k ((g 9 k) + 1))) 10 (upd (g 10) k 0)) 11 (upd (g 11) k 0)) 15 (upd (g 15) k ((g 15 k) + 1))) 16 (upd (fo16 (g 13) (g 16) k i) (16 * i + k) ((g 16 (16 * i + k)) + 1)) := by rw [fo16_s hk, if_neg c_9, if_pos c_11]
                      exact ih (i + 1) (by omega) (by omega) H locs ls (by rw [q_13]; exact hP) (by rw [q_13]; exact hD) hS (by exact lv_sub hl [1, 2, 0] rfl)
            have q_14 : (nI 0 : Int32) = 0 := by rfl
            exact LOOP_7 (n - 0 + 1) 0 (Nat.zero_le _) (Nat.lt_succ_self _) _ _ ls (by rw [fo16_0]; exact hP) (by rw [fo16_0]; exact hD) hS (by rw [q_14]; exact lv_sub hl [2, 3, 0] rfl)
        · have c_4 := bI_eq c_4
          refine lv_aload_n hx hb dX3_wasBad_79 rfl (lv_at hl 1 rfl) ?_
          refine va_get (D := D) (ci := 3) (v := .ref (q 9)) (C := RX3) (T := TX3) (N := 33) hx hb hts hinX3 hown hK hP 0 rfl rfl 9 (by decide) (hts (.fieldLink RX3 35 "TroubleCodesModel" "bads" "[I") (mem_at 3 rfl)) (fun _ h9 => h9) rfl dX3_wasBad_80 ?_
          refine lv_iload_n hx hb dX3_wasBad_83 rfl (lv_at hl 2 rfl) ?_
          refine x_iald (k := k) (f := upd (g 9) k ((g 9 k) + 1)) hx hb hK hP 9 rfl (by omega) (by decide) dX3_wasBad_84 ?_
          rw [pk_us]
          refine lv_aload_n hx hb dX3_wasBad_85 rfl (lv_at hl 1 rfl) ?_
          refine va_get (D := D) (ci := 3) (v := .ref (q 3)) (C := RX3) (T := TX3) (N := 33) hx hb hts hinX3 hown hK hP 0 rfl rfl 3 (by decide) (hts (.fieldLink RX3 16 "TroubleCodesModel" "badAt" "[I") (mem_at 5 rfl)) (fun _ h9 => h9) rfl dX3_wasBad_86 ?_
          refine lv_iload_n hx hb dX3_wasBad_89 rfl (lv_at hl 2 rfl) ?_
          refine x_iald (k := k) (f := g 3) hx hb hK hP 3 rfl (by omega) (by decide) dX3_wasBad_90 ?_
          refine lv_icmp_lt (tgt := 179) hx hb dX3_wasBad_91 (by decide) (fun c_15 => ?_) (fun c_15 => ?_)
          · have es : fX3_wasBad g n k = va_up (va_up (va_up (va_up g 8 (upd (g 8) k (if (g 8 k) = 0 then 1 else (g 8 k)))) 9 (upd (g 9) k ((g 9 k) + 1))) 10 (upd (g 10) k 0)) 11 (upd (g 11) k 0) := by rw [fX3_wasBad]; rw [if_neg c_3, if_neg c_4, if_pos c_15]
            exact hret 179 _ _ _ (by rw [es]; exact hP) (by rw [es]; exact hD) hS dX3_wasBad_179
          · refine lv_aload_n hx hb dX3_wasBad_94 rfl (lv_at hl 1 rfl) ?_
            refine lv_iload_n hx hb dX3_wasBad_95 rfl (lv_at hl 2 rfl) ?_
            refine x_rdV (As := [.int (nI k)]) (rest := []) ⟨hx, hb, hml, hown, hts⟩ (tX3_isHeld l D cI cZ cC q o (va_up (va_up (va_up (va_up g 8 (upd (g 8) k (if (g 8 k) = 0 then 1 else (g 8 k)))) 9 (upd (g 9) k ((g 9 k) + 1))) 10 (upd (g 10) k 0)) 11 (upd (g 11) k 0)) k hk hfo) (cwV 1 hts gX3_wasBad_X3_isHeld rfl rfl rfl (by decide +kernel) ⟨Nat.le_of_ble_eq_true rfl, Nat.le_of_ble_eq_true rfl⟩) hK (x_recv (ci := 3) hK hP rfl (q0 := 0) rfl) hP rfl hl.1 rfl (Nat.le_of_ble_eq_true rfl) dX3_wasBad_96 ⟨Nat.le_of_ble_eq_true rfl, Nat.le_of_ble_eq_true rfl⟩ (fun r_16 er_16 => ?_)
            have er_16 : r_16 = heldF (g 1) (g 2) (upd (g 8) k (if (g 8 k) = 0 then 1 else (g 8 k))) k := er_16
            subst er_16
            refine lv_if_ne (tgt := 179) hx hb dX3_wasBad_99 (by decide) (fun c_17 => ?_) (fun c_17 => ?_)
            · have es : fX3_wasBad g n k = va_up (va_up (va_up (va_up g 8 (upd (g 8) k (if (g 8 k) = 0 then 1 else (g 8 k)))) 9 (upd (g 9) k ((g 9 k) + 1))) 10 (upd (g 10) k 0)) 11 (upd (g 11) k 0) := by rw [fX3_wasBad]; rw [if_neg c_3, if_neg c_4, if_neg c_15, if_neg c_17]
              exact hret 179 _ _ _ (by rw [es]; exact hP) (by rw [es]; exact hD) hS dX3_wasBad_179
            · refine lv_aload_n hx hb dX3_wasBad_102 rfl (lv_at hl 1 rfl) ?_
              refine va_get (D := D) (ci := 3) (v := .ref (q 8)) (C := RX3) (T := TX3) (N := 33) hx hb hts hinX3 hown hK hP 0 rfl rfl 8 (by decide) (hts (.fieldLink RX3 32 "TroubleCodesModel" "code" "[I") (mem_at 4 rfl)) (fun _ h9 => h9) rfl dX3_wasBad_103 ?_
              refine lv_iload_n hx hb dX3_wasBad_106 rfl (lv_at hl 2 rfl) ?_
              refine lv_iconst (v := 2) hx hb dX3_wasBad_107 (by decide) ?_
              refine x_iast (k := k) (f := upd (g 8) k (if (g 8 k) = 0 then 1 else (g 8 k))) (x := 2) hx hb hK hP hD hS 8 rfl (by omega) (by decide) dX3_wasBad_108 (fun H locs hP hD hS => ?_)
              have hP : va_P D vwCl (mW cI cZ q o (va_up (va_up (va_up (va_up g 8 (upd (upd (g 8) k (if (g 8 k) = 0 then 1 else (g 8 k))) k 2)) 9 (upd (g 9) k ((g 9 k) + 1))) 10 (upd (g 10) k 0)) 11 (upd (g 11) k 0))) H := hP
              have hD : va_D A (mW cI cZ q o (va_up (va_up (va_up (va_up g 8 (upd (upd (g 8) k (if (g 8 k) = 0 then 1 else (g 8 k))) k 2)) 9 (upd (g 9) k ((g 9 k) + 1))) 10 (upd (g 10) k 0)) 11 (upd (g 11) k 0))) := hD
              refine lv_aload_n hx hb dX3_wasBad_109 rfl (lv_at hl 1 rfl) ?_
              refine va_get (D := D) (ci := 3) (v := .ref (q 15)) (C := RX3) (T := TX3) (N := 33) hx hb hts hinX3 hown hK hP 0 rfl rfl 15 (by decide) (hts (.fieldLink RX3 53 "TroubleCodesModel" "sets" "[I") (mem_at 6 rfl)) (fun _ h9 => h9) rfl dX3_wasBad_110 ?_
              refine lv_iload_n hx hb dX3_wasBad_113 rfl (lv_at hl 2 rfl) ?_
              refine lv_dup2_11 hx hb dX3_wasBad_114 rfl rfl ?_
              refine x_iald (k := k) (f := g 15) hx hb hK hP 15 rfl (by omega) (by decide) dX3_wasBad_115 ?_
              refine lv_iconst (v := 1) hx hb dX3_wasBad_116 (by decide) ?_
              refine lv_iadd hx hb dX3_wasBad_117 ?_
              refine x_iast (k := k) (f := g 15) (x := (g 15 k) + 1) hx hb hK hP hD hS 15 rfl (by omega) (by decide) dX3_wasBad_118 (fun H locs hP hD hS => ?_)
              have hP : va_P D vwCl (mW cI cZ q o (va_up (va_up (va_up (va_up (va_up g 8 (upd (upd (g 8) k (if (g 8 k) = 0 then 1 else (g 8 k))) k 2)) 9 (upd (g 9) k ((g 9 k) + 1))) 10 (upd (g 10) k 0)) 11 (upd (g 11) k 0)) 15 (upd (g 15) k ((g 15 k) + 1)))) H := hP
              have hD : va_D A (mW cI cZ q o (va_up (va_up (va_up (va_up (va_up g 8 (upd (upd (g 8) k (if (g 8 k) = 0 then 1 else (g 8 k))) k 2)) 9 (upd (g 9) k ((g 9 k) + 1))) 10 (upd (g 10) k 0)) 11 (upd (g 11) k 0)) 15 (upd (g 15) k ((g 15 k) + 1)))) := hD
              refine lv_iconst (v := 0) hx hb dX3_wasBad_119 (by decide) ?_
              refine lv_istore_n (lv' := [(3, .int 0), (2, .int (bI ((g 8 k) = 3))), (0, .ref o), (1, .int (nI k))]) hx hb dX3_wasBad_120 rfl hl (by decide) rfl (fun ls hl => ?_)
              have LOOP_18 : ∀ (fu i : Nat), i ≤ n → n - i < fu → ∀ (H : Heap) (locs : List Loc) (ls : Array Slot), va_P D vwCl (mW cI cZ q o (va_up (va_up (va_up (va_up (va_up (va_up g 8 (upd (upd (g 8) k (if (g 8 k) = 0 then 1 else (g 8 k))) k 2)) 9 (upd (g 9) k ((g 9 k) + 1))) 10 (upd (g 10) k 0)) 11 (upd (g 11) k 0)) 15 (upd (g 15) k ((g 15 k) + 1))) 16 (fo16 (g 13) (g 16) k i))) H → va_D A (mW cI cZ q o (va_up (va_up (va_up (va_up (va_up (va_up g 8 (upd (upd (g 8) k (if (g 8 k) = 0 then 1 else (g 8 k))) k 2)) 9 (upd (g 9) k ((g 9 k) + 1))) 10 (upd (g 10) k 0)) 11 (upd (g 11) k 0)) 15 (upd (g 15) k ((g 15 k) + 1))) 16 (fo16 (g 13) (g 16) k i))) → va_S A s.heap H locs → lv_has ls 4 [(0, .ref o), (1, .int (nI k)), (3, .int (nI i))] → W p l e (rmK 3) s m args below meth c H locs 0 0 Q (F0 m 121 ls []) := by
                intro fu
                induction fu with
                | zero => intro i h1 h2; exact absurd h2 (Nat.not_lt_zero _)
                | succ fu ih =>
                  intro i hkn hfu  H locs ls hP hD hS hl
                  refine lv_iload_n hx hb dX3_wasBad_121 rfl (lv_at hl 2 rfl) ?_
                  refine lv_aload_n hx hb dX3_wasBad_122 rfl (lv_at hl 0 rfl) ?_
                  refine va_get (D := D) (ci := 3) (v := .int (g 0 0)) (C := RX3) (T := TX3) (N := 33) hx hb hts hinX3 hown hK hP 0 rfl rfl 0 (by decide) (hts (.fieldLink RX3 93 "TroubleCodesModel" "checks" "I") (mem_at 7 rfl)) (fun _ h9 => h9) rfl dX3_wasBad_123 ?_
                  refine lv_icmp_ge (tgt := 174) hx hb dX3_wasBad_126 (by decide) (fun c_19 => ?_) (fun c_19 => ?_)
                  · have ekn : n = i := Nat.le_antisymm (kx_ge hn (by omega) (by omega) c_19) hkn
                    subst ekn
                    refine lv_aload_n hx hb dX3_wasBad_174 rfl (lv_at hl 0 rfl) ?_
                    refine lv_iload_n hx hb dX3_wasBad_175 rfl (lv_at hl 1 rfl) ?_
                    refine x_wvW (As := [.int (nI k)]) (rest := []) ⟨hx, hb, hml, hown, hts⟩ (tX3_freezes l D cI cZ cC q o (va_up (va_up (va_up (va_up (va_up (va_up g 8 (upd (upd (g 8) k (if (g 8 k) = 0 then 1 else (g 8 k))) k 2)) 9 (upd (g 9) k ((g 9 k) + 1))) 10 (upd (g 10) k 0)) 11 (upd (g 11) k 0)) 15 (upd (g 15) k ((g 15 k) + 1))) 16 (fo16 (g 13) (g 16) k n)) n hn hnb k hk) (cwV 1 hts gX3_wasBad_X3_freezes rfl rfl rfl (by decide +kernel) ⟨Nat.le_of_ble_eq_true rfl, Nat.le_of_ble_eq_true rfl⟩) hK (x_recv (ci := 3) hK hP rfl (q0 := 0) rfl) hP hD hS hA rfl hl.1 rfl (Nat.le_of_ble_eq_true rfl) dX3_wasBad_176 ⟨Nat.le_of_ble_eq_true rfl, Nat.le_of_ble_eq_true rfl⟩ (fun H locs hP hD hS => ?_)
                    have es : fX3_wasBad g n k = (fX3_freezes (va_up (va_up (va_up (va_up (va_up (va_up g 8 (upd (upd (g 8) k (if (g 8 k) = 0 then 1 else (g 8 k))) k 2)) 9 (upd (g 9) k ((g 9 k) + 1))) 10 (upd (g 10) k 0)) 11 (upd (g 11) k 0)) 15 (upd (g 15) k ((g 15 k) + 1))) 16 (fo16 (g 13) (g 16) k n)) n k) := by rw [fX3_wasBad]; rw [if_neg c_3, if_neg c_4, if_neg c_15, if_pos c_17]
                    exact hret 179 _ _ _ (by rw [es]; exact hP) (by rw [es]; exact hD) hS dX3_wasBad_179
                  · have hil : i < n := kx_lt hn (by omega) (by omega) c_19
                    refine lv_aload_n hx hb dX3_wasBad_129 rfl (lv_at hl 0 rfl) ?_
                    refine va_get (D := D) (ci := 3) (v := .ref (q 16)) (C := RX3) (T := TX3) (N := 33) hx hb hts hinX3 hown hK hP 0 rfl rfl 16 (by decide) (hts (.fieldLink RX3 56 "TroubleCodesModel" "foretold" "[I") (mem_at 8 rfl)) (fun _ h9 => h9) rfl dX3_wasBad_130 ?_
                    refine lv_bipush (v := 16) hx hb dX3_wasBad_133 (by decide) ?_
                    refine lv_iload_n hx hb dX3_wasBad_135 rfl (lv_at hl 2 rfl) ?_
                    refine lv_imul hx hb dX3_wasBad_136 ?_
                    refine lv_iload_n hx hb dX3_wasBad_137 rfl (lv_at hl 1 rfl) ?_
                    refine lv_iadd hx hb dX3_wasBad_138 ?_
                    rw [ix16]
                    refine lv_dup2_11 hx hb dX3_wasBad_139 rfl rfl ?_
                    refine x_iald (k := (16 * i + k)) (f := fo16 (g 13) (g 16) k i) hx hb hK hP 16 rfl (by omega) (by decide) dX3_wasBad_140 ?_
                    rw [fo16_k hk]
                    refine lv_aload_n hx hb dX3_wasBad_141 rfl (lv_at hl 0 rfl) ?_
                    refine va_get (D := D) (ci := 3) (v := .ref (q 13)) (C := RX3) (T := TX3) (N := 33) hx hb hts hinX3 hown hK hP 0 rfl rfl 13 (by decide) (hts (.fieldLink RX3 47 "TroubleCodesModel" "begun" "[I") (mem_at 9 rfl)) (fun _ h9 => h9) rfl dX3_wasBad_142 ?_
                    refine lv_iload_n hx hb dX3_wasBad_145 rfl (lv_at hl 2 rfl) ?_
                    refine x_iald (k := i) (f := g 13) hx hb hK hP 13 rfl (by omega) (by decide) dX3_wasBad_146 ?_
                    refine lv_iconst (v := 1) hx hb dX3_wasBad_147 (by decide) ?_
                    refine lv_icmp_eq (tgt := 161) hx hb dX3_wasBad_148 (by decide) (fun c_20 => ?_) (fun c_20 => ?_)
                    · refine lv_iconst (v := 1) hx hb dX3_wasBad_161 (by decide) ?_
                      refine lv_goto (tgt := 166) hx hb dX3_wasBad_162 (by decide) ?_
                      refine lv_iadd hx hb dX3_wasBad_166 ?_
                      refine x_iast (k := (16 * i + k)) (f := fo16 (g 13) (g 16) k i) (x := (g 16 (16 * i + k)) + 1) hx hb hK hP hD hS 16 rfl (by omega) (by decide) dX3_wasBad_167 (fun H locs hP hD hS => ?_)
                      have hP : va_P D vwCl (mW cI cZ q o (va_up (va_up (va_up (va_up (va_up (va_up g 8 (upd (upd (g 8) k (if (g 8 k) = 0 then 1 else (g 8 k))) k 2)) 9 (upd (g 9) k ((g 9 k) + 1))) 10 (upd (g 10) k 0)) 11 (upd (g 11) k 0)) 15 (upd (g 15) k ((g 15 k) + 1))) 16 (upd (fo16 (g 13) (g 16) k i) (16 * i + k) ((g 16 (16 * i + k)) + 1)))) H := hP
                      have hD : va_D A (mW cI cZ q o (va_up (va_up (va_up (va_up (va_up (va_up g 8 (upd (upd (g 8) k (if (g 8 k) = 0 then 1 else (g 8 k))) k 2)) 9 (upd (g 9) k ((g 9 k) + 1))) 10 (upd (g 10) k 0)) 11 (upd (g 11) k 0)) 15 (upd (g 15) k ((g 15 k) + 1))) 16 (upd (fo16 (g 13) (g 16) k i) (16 * i + k) ((g 16 (16 * i + k)) + 1)))) := hD
                      refine lv_iinc (v := nI (i + 1)) (lv' := [(3, .int (nI (i + 1))), (0, .ref o), (1, .int (nI k))]) hx hb dX3_wasBad_168 hl (k := 2) rfl (nI_1 _) (by decide) rfl (fun ls hl => ?_)
                      refine lv_goto (tgt := 121) hx hb dX3_wasBad_171 (by decide) ?_
                      have q_21 : va_up (va_up (va_up (va_up (va_up (va_up g 8 (upd (upd (g 8) k (if (g 8 k) = 0 then 1 else (g 8 k))) k 2)) 9 (upd (g 9) k ((g 9 k) + 1))) 10 (upd (g 10) k 0)) 11 (upd (g 11) k 0)) 15 (upd (g 15) k ((g 15 k) + 1))) 16 (fo16 (g 13) (g 16) k (i + 1)) = va_up (va_up (va_up (va_up (va_up (va_up g 8 (upd (upd (g 8) k (if (g 8 k) = 0 then 1 else (g 8 k))) k 2)) 9 (upd (g 9) k ((g 9 k) + 1))) 10 (upd (g 10) k 0)) 11 (upd (g 11) k 0)) 15 (upd (g 15) k ((g 15 k) + 1))) 16 (upd (fo16 (g 13) (g 16) k i) (16 * i + k) ((g 16 (16 * i + k)) + 1)) := by rw [fo16_s hk, if_pos c_20]
                      exact ih (i + 1) (by omega) (by omega) H locs ls (by rw [q_21]; exact hP) (by rw [q_21]; exact hD) hS (by exact lv_sub hl [1, 2, 0] rfl)
                    · refine lv_aload_n hx hb dX3_wasBad_151 rfl (lv_at hl 0 rfl) ?_
                      refine va_get (D := D) (ci := 3) (v := .ref (q 13)) (C := RX3) (T := TX3) (N := 33) hx hb hts hinX3 hown hK hP 0 rfl rfl 13 (by decide) (hts (.fieldLink RX3 47 "TroubleCodesModel" "begun" "[I") (mem_at 9 rfl)) (fun _ h9 => h9) rfl dX3_wasBad_152 ?_
                      refine lv_iload_n hx hb dX3_wasBad_155 rfl (lv_at hl 2 rfl) ?_
                      refine x_iald (k := i) (f := g 13) hx hb hK hP 13 rfl (by omega) (by decide) dX3_wasBad_156 ?_
                      refine lv_iconst (v := 2) hx hb dX3_wasBad_157 (by decide) ?_
                      refine lv_icmp_ne (tgt := 165) hx hb dX3_wasBad_158 (by decide) (fun c_22 => ?_) (fun c_22 => ?_)
                      · refine lv_iconst (v := 0) hx hb dX3_wasBad_165 (by decide) ?_
                        refine lv_iadd hx hb dX3_wasBad_166 ?_
                        refine x_iast (k := (16 * i + k)) (f := fo16 (g 13) (g 16) k i) (x := (g 16 (16 * i + k)) + 0) hx hb hK hP hD hS 16 rfl (by omega) (by decide) dX3_wasBad_167 (fun H locs hP hD hS => ?_)
                        have hP : va_P D vwCl (mW cI cZ q o (va_up (va_up (va_up (va_up (va_up (va_up g 8 (upd (upd (g 8) k (if (g 8 k) = 0 then 1 else (g 8 k))) k 2)) 9 (upd (g 9) k ((g 9 k) + 1))) 10 (upd (g 10) k 0)) 11 (upd (g 11) k 0)) 15 (upd (g 15) k ((g 15 k) + 1))) 16 (upd (fo16 (g 13) (g 16) k i) (16 * i + k) ((g 16 (16 * i + k)) + 0)))) H := hP
                        have hD : va_D A (mW cI cZ q o (va_up (va_up (va_up (va_up (va_up (va_up g 8 (upd (upd (g 8) k (if (g 8 k) = 0 then 1 else (g 8 k))) k 2)) 9 (upd (g 9) k ((g 9 k) + 1))) 10 (upd (g 10) k 0)) 11 (upd (g 11) k 0)) 15 (upd (g 15) k ((g 15 k) + 1))) 16 (upd (fo16 (g 13) (g 16) k i) (16 * i + k) ((g 16 (16 * i + k)) + 0)))) := hD
                        refine lv_iinc (v := nI (i + 1)) (lv' := [(3, .int (nI (i + 1))), (0, .ref o), (1, .int (nI k))]) hx hb dX3_wasBad_168 hl (k := 2) rfl (nI_1 _) (by decide) rfl (fun ls hl => ?_)
                        refine lv_goto (tgt := 121) hx hb dX3_wasBad_171 (by decide) ?_
                        have q_23 : va_up (va_up (va_up (va_up (va_up (va_up g 8 (upd (upd (g 8) k (if (g 8 k) = 0 then 1 else (g 8 k))) k 2)) 9 (upd (g 9) k ((g 9 k) + 1))) 10 (upd (g 10) k 0)) 11 (upd (g 11) k 0)) 15 (upd (g 15) k ((g 15 k) + 1))) 16 (fo16 (g 13) (g 16) k (i + 1)) = va_up (va_up (va_up (va_up (va_up (va_up g 8 (upd (upd (g 8) k (if (g 8 k) = 0 then 1 else (g 8 k))) k 2)) 9 (upd (g 9) k ((g 9 k) + 1))) 10 (upd (g 10) k 0)) 11 (upd (g 11) k 0)) 15 (upd (g 15) k ((g 15 k) + 1))) 16 (upd (fo16 (g 13) (g 16) k i) (16 * i + k) ((g 16 (16 * i + k)) + 0)) := by rw [fo16_s hk, if_neg c_20, if_neg c_22]
                        exact ih (i + 1) (by omega) (by omega) H locs ls (by rw [q_23]; exact hP) (by rw [q_23]; exact hD) hS (by exact lv_sub hl [1, 2, 0] rfl)
                      · refine lv_iconst (v := 1) hx hb dX3_wasBad_161 (by decide) ?_
                        refine lv_goto (tgt := 166) hx hb dX3_wasBad_162 (by decide) ?_
                        refine lv_iadd hx hb dX3_wasBad_166 ?_
                        refine x_iast (k := (16 * i + k)) (f := fo16 (g 13) (g 16) k i) (x := (g 16 (16 * i + k)) + 1) hx hb hK hP hD hS 16 rfl (by omega) (by decide) dX3_wasBad_167 (fun H locs hP hD hS => ?_)
                        have hP : va_P D vwCl (mW cI cZ q o (va_up (va_up (va_up (va_up (va_up (va_up g 8 (upd (upd (g 8) k (if (g 8 k) = 0 then 1 else (g 8 k))) k 2)) 9 (upd (g 9) k ((g 9 k) + 1))) 10 (upd (g 10) k 0)) 11 (upd (g 11) k 0)) 15 (upd (g 15) k ((g 15 k) + 1))) 16 (upd (fo16 (g 13) (g 16) k i) (16 * i + k) ((g 16 (16 * i + k)) + 1)))) H := hP
                        have hD : va_D A (mW cI cZ q o (va_up (va_up (va_up (va_up (va_up (va_up g 8 (upd (upd (g 8) k (if (g 8 k) = 0 then 1 else (g 8 k))) k 2)) 9 (upd (g 9) k ((g 9 k) + 1))) 10 (upd (g 10) k 0)) 11 (upd (g 11) k 0)) 15 (upd (g 15) k ((g 15 k) + 1))) 16 (upd (fo16 (g 13) (g 16) k i) (16 * i + k) ((g 16 (16 * i + k)) + 1)))) := hD
                        refine lv_iinc (v := nI (i + 1)) (lv' := [(3, .int (nI (i + 1))), (0, .ref o), (1, .int (nI k))]) hx hb dX3_wasBad_168 hl (k := 2) rfl (nI_1 _) (by decide) rfl (fun ls hl => ?_)
                        refine lv_goto (tgt := 121) hx hb dX3_wasBad_171 (by decide) ?_
                        have q_24 : va_up (va_up (va_up (va_up (va_up (va_up g 8 (upd (upd (g 8) k (if (g 8 k) = 0 then 1 else (g 8 k))) k 2)) 9 (upd (g 9) k ((g 9 k) + 1))) 10 (upd (g 10) k 0)) 11 (upd (g 11) k 0)) 15 (upd (g 15) k ((g 15 k) + 1))) 16 (fo16 (g 13) (g 16) k (i + 1)) = va_up (va_up (va_up (va_up (va_up (va_up g 8 (upd (upd (g 8) k (if (g 8 k) = 0 then 1 else (g 8 k))) k 2)) 9 (upd (g 9) k ((g 9 k) + 1))) 10 (upd (g 10) k 0)) 11 (upd (g 11) k 0)) 15 (upd (g 15) k ((g 15 k) + 1))) 16 (upd (fo16 (g 13) (g 16) k i) (16 * i + k) ((g 16 (16 * i + k)) + 1)) := by rw [fo16_s hk, if_neg c_20, if_pos c_22]
                        exact ih (i + 1) (by omega) (by omega) H locs ls (by rw [q_24]; exact hP) (by rw [q_24]; exact hD) hS (by exact lv_sub hl [1, 2, 0] rfl)
              have q_25 : (nI 0 : Int32) = 0 := by rfl
              exact LOOP_18 (n - 0 + 1) 0 (Nat.zero_le _) (Nat.lt_succ_self _) _ _ ls (by rw [fo16_0]; exact hP) (by rw [fo16_0]; exact hD) hS (by rw [q_25]; exact lv_sub hl [2, 3, 0] rfl)
    refine lv_if_ne (tgt := 58) hx hb dX3_wasBad_51 (by decide) (fun c_26 => ?_) (fun c_26 => ?_)
    · refine lv_aload_n hx hb dX3_wasBad_58 rfl (lv_at hl 1 rfl) ?_
      refine va_get (D := D) (ci := 3) (v := .ref (q 8)) (C := RX3) (T := TX3) (N := 33) hx hb hts hinX3 hown hK hP 0 rfl rfl 8 (by decide) (hts (.fieldLink RX3 32 "TroubleCodesModel" "code" "[I") (mem_at 4 rfl)) (fun _ h9 => h9) rfl dX3_wasBad_59 ?_
      refine lv_iload_n hx hb dX3_wasBad_62 rfl (lv_at hl 2 rfl) ?_
      refine x_iald (k := k) (f := g 8) hx hb hK hP 8 rfl (by omega) (by decide) dX3_wasBad_63 ?_
      rw [if_neg c_26] at J64_1
      exact J64_1
    · refine lv_iconst (v := 1) hx hb dX3_wasBad_54 (by decide) ?_
      refine lv_goto (tgt := 64) hx hb dX3_wasBad_55 (by decide) ?_
      rw [if_pos c_26] at J64_1
      exact J64_1
  refine lv_icmp_ne (tgt := 38) hx hb dX3_wasBad_31 (by decide) (fun c_27 => ?_) (fun c_27 => ?_)
  · refine lv_iconst (v := 0) hx hb dX3_wasBad_38 (by decide) ?_
    rw [bI_f c_27] at J39_0
    exact J39_0
  · refine lv_iconst (v := 1) hx hb dX3_wasBad_34 (by decide) ?_
    refine lv_goto (tgt := 39) hx hb dX3_wasBad_35 (by decide) ?_
    rw [bI_t c_27] at J39_0
    exact J39_0

def stepE (x : Nat → Nat → Int32) (n k : Nat) : Nat → Nat → Int32 :=
  let x1 := va_up x 12 (upd (x 12) k (if x 12 k = 0 then (if x 14 k ≤ 0 then 0 else 1) else 1))
  let x2 := if x 14 k = 2 then fX3_wasBad x1 n k else if x 14 k = 1 then fX3_wasGood x1 k else x1
  if x2 8 k = 3 ∧ ¬ x2 14 k = 2 then fX3_ages x2 k else x2
def endF (g : Nat → Nat → Int32) (n : Nat) : Nat → (Nat → Nat → Int32) × Int32
  | 0 => (sc g 17 0, 0)
  | k + 1 => (stepE (endF g n k).1 n k, (endF g n k).2 + (stepE (endF g n k).1 n k 15 k - (endF g n k).1 15 k))
theorem frz_keep (x : Nat → Nat → Int32) (n k r : Nat) (h : r < 21 ∨ 25 < r) : fX3_freezes x n k r = x r := by
  unfold fX3_freezes
  repeat' split
  all_goals simp [va_up, show r ≠ 21 by omega, show r ≠ 22 by omega, show r ≠ 23 by omega, show r ≠ 24 by omega, show r ≠ 25 by omega]
theorem wb_keep (x : Nat → Nat → Int32) (n k r : Nat) (h : r < 8) : fX3_wasBad x n k r = x r := by
  unfold fX3_wasBad
  repeat' split
  all_goals (try rw [frz_keep _ _ _ _ (by omega)])
  all_goals simp [va_up, show r ≠ 8 by omega, show r ≠ 9 by omega, show r ≠ 10 by omega, show r ≠ 11 by omega, show r ≠ 15 by omega, show r ≠ 16 by omega]
theorem wg_keep (x : Nat → Nat → Int32) (k r : Nat) (h : r < 8) : fX3_wasGood x k r = x r := by
  unfold fX3_wasGood
  repeat' split
  all_goals simp [va_up, show r ≠ 8 by omega, show r ≠ 9 by omega, show r ≠ 10 by omega, show r ≠ 11 by omega]
theorem ag_keep (x : Nat → Nat → Int32) (k r : Nat) (h : r < 8) : fX3_ages x k r = x r := by
  unfold fX3_ages
  repeat' split
  all_goals simp [va_up, show r ≠ 8 by omega, show r ≠ 11 by omega, show r ≠ 21 by omega]
theorem stepE_keep (x : Nat → Nat → Int32) (n k r : Nat) (h : r < 8) : stepE x n k r = x r := by
  have h12 : ∀ f : Nat → Int32, va_up x 12 f r = x r := fun f => by simp [va_up, show r ≠ 12 by omega]
  unfold stepE
  try simp only
  repeat' split
  all_goals simp only [ag_keep _ _ _ h, wb_keep _ _ _ _ h, wg_keep _ _ _ h, h12]
theorem endF_keep (g : Nat → Nat → Int32) (n r : Nat) (h : r < 8) : ∀ k : Nat, (endF g n k).1 r = g r
  | 0 => by simp [endF, sc, va_up, show r ≠ 17 by omega]
  | k + 1 => by rw [endF]; simp only; rw [stepE_keep _ _ _ _ h]; exact endF_keep g n r h k

def fX3_end (g : Nat → Nat → Int32) (n : Nat) : Int32 × (Nat → Nat → Int32) := if g 17 0 = 0 then (-3, g) else ((endF g n n).2, va_up (endF g n n).1 18 (fun _ => (endF g n n).1 18 0 + 1))

set_option maxHeartbeats 4000000 in
set_option maxRecDepth 100000 in
theorem tX3_end (l : Launch) (D : va_G) (cI cZ cC : ClassId) (q : Nat → Nat) (o : Nat) (g : Nat → Nat → Int32) (n : Nat) (hn : g 0 0 = nI n) (hnb : n ≤ 16) (hfo : ∀ k, k < n → g 1 k = 2 → ∃ f, f < 16 ∧ g 2 k = nI f) : WrI l yX3_end wsX3_end (rmK 4) D cI cZ cC [.ref o] (mW cI cZ q o g) (mW cI cZ q o ((fX3_end g n).2)) (fun ans => ans = (fX3_end g n).1) := by
  refine WrI.of (cc := cX3_end) (maxL := 4) (ret := .int) (by decide) rfl (Nat.le_of_ble_eq_true rfl) ?_
  intro p e s m args below meth c Q A ls hx hb hml hts hown hK hP hD hS hA hret hl
  have hl : lv_has ls 4 [(0, .ref o)] := hl
  have hne : ∀ k, (endF g n k).1 0 0 = nI n := fun k => by rw [endF_keep g n 0 (by omega)]; exact hn
  have hinX3 : ∀ w ∈ u_ws RX3 TX3 33, w ∈ wsX3_end := (fun w h => List.mem_cons_of_mem _ (List.mem_append_right _ h))
  refine lv_aload_n hx hb dX3_end_0 rfl (lv_at hl 0 rfl) ?_
  refine va_get (D := D) (ci := 3) (v := .int (g 17 0)) (C := RX3) (T := TX3) (N := 33) hx hb hts hinX3 hown hK hP 0 rfl rfl 17 (by decide) (hts (.fieldLink RX3 104 "TroubleCodesModel" "goes" "Z") (mem_at 1 rfl)) (fun _ h9 => h9) rfl dX3_end_1 ?_
  refine lv_if_ne (tgt := 10) hx hb dX3_end_4 (by decide) (fun c_1 => ?_) (fun c_1 => ?_)
  · refine lv_aload_n hx hb dX3_end_10 rfl (lv_at hl 0 rfl) ?_
    refine lv_iconst (v := 0) hx hb dX3_end_11 (by decide) ?_
    refine va_put (D := D) (ci := 3) (v := .int 0) (ty := .boolean) (C := RX3) (T := TX3) (N := 33) hx hb hts hinX3 tyX3 tyX3_ok nmX3 hown hK hP hD hS 0 rfl rfl 17 (by decide) (hts (.fieldLink RX3 104 "TroubleCodesModel" "goes" "Z") (mem_at 1 rfl)) (fun _ h9 => h9) rfl (by decide +kernel) rfl rfl (Nat.le_of_ble_eq_true rfl) dX3_end_12 (fun H locs hP hD hS => ?_)
    have hP : va_P D vwCl (mW cI cZ q o (va_up g 17 (fun _ => 0))) H := hP
    have hD : va_D A (mW cI cZ q o (va_up g 17 (fun _ => 0))) := hD
    refine lv_iconst (v := 0) hx hb dX3_end_15 (by decide) ?_
    refine lv_istore_n (lv' := [(1, .int 0), (0, .ref o)]) hx hb dX3_end_16 rfl hl (by decide) rfl (fun ls hl => ?_)
    refine lv_iconst (v := 0) hx hb dX3_end_17 (by decide) ?_
    refine lv_istore_n (lv' := [(2, .int 0), (1, .int 0), (0, .ref o)]) hx hb dX3_end_18 rfl hl (by decide) rfl (fun ls hl => ?_)
    have LOOP_2 : ∀ (fu k : Nat), k ≤ n → n - k < fu → ∀ (H : Heap) (locs : List Loc) (ls : Array Slot), va_P D vwCl (mW cI cZ q o ((endF g n k).1)) H → va_D A (mW cI cZ q o ((endF g n k).1)) → va_S A s.heap H locs → lv_has ls 4 [(0, .ref o), (1, .int ((endF g n k).2)), (2, .int (nI k))] → W p l e (rmK 4) s m args below meth c H locs 0 0 Q (F0 m 19 ls []) := by
      intro fu
      induction fu with
      | zero => intro k h1 h2; exact absurd h2 (Nat.not_lt_zero _)
      | succ fu ih =>
        intro k hkn hfu  H locs ls hP hD hS hl
        refine lv_iload_n hx hb dX3_end_19 rfl (lv_at hl 2 rfl) ?_
        refine lv_aload_n hx hb dX3_end_20 rfl (lv_at hl 0 rfl) ?_
        refine va_get (D := D) (ci := 3) (v := .int (((endF g n k).1) 0 0)) (C := RX3) (T := TX3) (N := 33) hx hb hts hinX3 hown hK hP 0 rfl rfl 0 (by decide) (hts (.fieldLink RX3 93 "TroubleCodesModel" "checks" "I") (mem_at 2 rfl)) (fun _ h9 => h9) rfl dX3_end_21 ?_
        refine lv_icmp_ge (tgt := 138) hx hb dX3_end_24 (by decide) (fun c_3 => ?_) (fun c_3 => ?_)
        · have ekn : n = k := Nat.le_antisymm (kx_ge (hne k) (by omega) (by omega) c_3) hkn
          subst ekn
          refine lv_aload_n hx hb dX3_end_138 rfl (lv_at hl 0 rfl) ?_
          refine lv_dup hx hb dX3_end_139 rfl ?_
          refine va_get (D := D) (ci := 3) (v := .int (((endF g n n).1) 18 0)) (C := RX3) (T := TX3) (N := 33) hx hb hts hinX3 hown hK hP 0 rfl rfl 18 (by decide) (hts (.fieldLink RX3 108 "TroubleCodesModel" "drives" "I") (mem_at 7 rfl)) (fun _ h9 => h9) rfl dX3_end_140 ?_
          refine lv_iconst (v := 1) hx hb dX3_end_143 (by decide) ?_
          refine lv_iadd hx hb dX3_end_144 ?_
          refine va_put (D := D) (ci := 3) (v := .int ((((endF g n n).1) 18 0) + 1)) (ty := .int) (C := RX3) (T := TX3) (N := 33) hx hb hts hinX3 tyX3 tyX3_ok nmX3 hown hK hP hD hS 0 rfl rfl 18 (by decide) (hts (.fieldLink RX3 108 "TroubleCodesModel" "drives" "I") (mem_at 7 rfl)) (fun _ h9 => h9) rfl (by decide +kernel) rfl rfl (Nat.le_of_ble_eq_true rfl) dX3_end_145 (fun H locs hP hD hS => ?_)
          have hP : va_P D vwCl (mW cI cZ q o (va_up ((endF g n n).1) 18 (fun _ => (((endF g n n).1) 18 0) + 1))) H := hP
          have hD : va_D A (mW cI cZ q o (va_up ((endF g n n).1) 18 (fun _ => (((endF g n n).1) 18 0) + 1))) := hD
          refine lv_iload_n hx hb dX3_end_148 rfl (lv_at hl 1 rfl) ?_
          have es : fX3_end g n = ((endF g n n).2, va_up ((endF g n n).1) 18 (fun _ => (((endF g n n).1) 18 0) + 1)) := by rw [fX3_end]; rw [if_neg c_1]
          exact hret 149 _ _ _ _ (by rw [es]) (by rw [es]; exact hP) (by rw [es]; exact hD) hS rfl dX3_end_149
        · have hkl : k < n := kx_lt (hne k) (by omega) (by omega) c_3
          obtain ⟨x, ex⟩ : ∃ x, x = (endF g n k).1 := ⟨_, rfl⟩
          have hnx : x 0 0 = nI n := by rw [ex, endF_keep g n 0 (by omega)]; exact hn
          have hfox : x 1 k = 2 → ∃ f, f < 16 ∧ x 2 k = nI f := by rw [ex, endF_keep g n 1 (by omega), endF_keep g n 2 (by omega)]; exact hfo k hkl
          rw [← ex] at hP hD
          refine lv_aload_n hx hb dX3_end_27 rfl (lv_at hl 0 rfl) ?_
          refine va_get (D := D) (ci := 3) (v := .ref (q 15)) (C := RX3) (T := TX3) (N := 33) hx hb hts hinX3 hown hK hP 0 rfl rfl 15 (by decide) (hts (.fieldLink RX3 53 "TroubleCodesModel" "sets" "[I") (mem_at 3 rfl)) (fun _ h9 => h9) rfl dX3_end_28 ?_
          refine lv_iload_n hx hb dX3_end_31 rfl (lv_at hl 2 rfl) ?_
          refine x_iald (k := k) (f := x 15) hx hb hK hP 15 rfl (by omega) (by decide) dX3_end_32 ?_
          refine lv_istore_n (lv' := [(3, .int (x 15 k)), (0, .ref o), (1, .int ((endF g n k).2)), (2, .int (nI k))]) hx hb dX3_end_33 rfl hl (by decide) rfl (fun ls hl => ?_)
          refine lv_aload_n hx hb dX3_end_34 rfl (lv_at hl 1 rfl) ?_
          refine va_get (D := D) (ci := 3) (v := .ref (q 12)) (C := RX3) (T := TX3) (N := 33) hx hb hts hinX3 hown hK hP 0 rfl rfl 12 (by decide) (hts (.fieldLink RX3 44 "TroubleCodesModel" "hasRun" "[Z") (mem_at 4 rfl)) (fun _ h9 => h9) rfl dX3_end_35 ?_
          refine lv_iload_n hx hb dX3_end_38 rfl (lv_at hl 3 rfl) ?_
          refine lv_aload_n hx hb dX3_end_39 rfl (lv_at hl 1 rfl) ?_
          refine va_get (D := D) (ci := 3) (v := .ref (q 12)) (C := RX3) (T := TX3) (N := 33) hx hb hts hinX3 hown hK hP 0 rfl rfl 12 (by decide) (hts (.fieldLink RX3 44 "TroubleCodesModel" "hasRun" "[Z") (mem_at 4 rfl)) (fun _ h9 => h9) rfl dX3_end_40 ?_
          refine lv_iload_n hx hb dX3_end_43 rfl (lv_at hl 3 rfl) ?_
          refine x_zald (k := k) (f := x 12) hx hb hK hP 12 rfl (by omega) (by decide) dX3_end_44 ?_
          have J62_3 : W p l e (rmK 4) s m args below meth c H locs 0 0 Q (F0 m 62 ls [.int (if (x 12 k) = 0 then (if (x 14 k) ≤ 0 then 0 else 1) else 1), .int (nI k), .ref (q 12)]) := by
            refine x_zast (k := k) (f := x 12) (x := if (x 12 k) = 0 then (if (x 14 k) ≤ 0 then 0 else 1) else 1) hx hb hK hP hD hS 12 rfl (by split <;> (try split) <;> first | exact Or.inl rfl | exact Or.inr rfl) (by omega) (by decide) dX3_end_62 (fun H locs hP hD hS => ?_)
            have hP : va_P D vwCl (mW cI cZ q o (va_up x 12 (upd (x 12) k (if (x 12 k) = 0 then (if (x 14 k) ≤ 0 then 0 else 1) else 1)))) H := hP
            have hD : va_D A (mW cI cZ q o (va_up x 12 (upd (x 12) k (if (x 12 k) = 0 then (if (x 14 k) ≤ 0 then 0 else 1) else 1)))) := hD
            refine lv_aload_n hx hb dX3_end_63 rfl (lv_at hl 1 rfl) ?_
            refine va_get (D := D) (ci := 3) (v := .ref (q 14)) (C := RX3) (T := TX3) (N := 33) hx hb hts hinX3 hown hK hP 0 rfl rfl 14 (by decide) (hts (.fieldLink RX3 50 "TroubleCodesModel" "told" "[I") (mem_at 5 rfl)) (fun _ h9 => h9) rfl dX3_end_64 ?_
            refine lv_iload_n hx hb dX3_end_67 rfl (lv_at hl 3 rfl) ?_
            refine x_iald (k := k) (f := x 14) hx hb hK hP 14 rfl (by omega) (by decide) dX3_end_68 ?_
            refine lv_iconst (v := 2) hx hb dX3_end_69 (by decide) ?_
            refine lv_icmp_ne (tgt := 81) hx hb dX3_end_70 (by decide) (fun c_5 => ?_) (fun c_5 => ?_)
            · refine lv_aload_n hx hb dX3_end_81 rfl (lv_at hl 1 rfl) ?_
              refine va_get (D := D) (ci := 3) (v := .ref (q 14)) (C := RX3) (T := TX3) (N := 33) hx hb hts hinX3 hown hK hP 0 rfl rfl 14 (by decide) (hts (.fieldLink RX3 50 "TroubleCodesModel" "told" "[I") (mem_at 5 rfl)) (fun _ h9 => h9) rfl dX3_end_82 ?_
              refine lv_iload_n hx hb dX3_end_85 rfl (lv_at hl 3 rfl) ?_
              refine x_iald (k := k) (f := x 14) hx hb hK hP 14 rfl (by omega) (by decide) dX3_end_86 ?_
              refine lv_iconst (v := 1) hx hb dX3_end_87 (by decide) ?_
              refine lv_icmp_ne (tgt := 96) hx hb dX3_end_88 (by decide) (fun c_6 => ?_) (fun c_6 => ?_)
              · refine lv_aload_n hx hb dX3_end_96 rfl (lv_at hl 1 rfl) ?_
                refine va_get (D := D) (ci := 3) (v := .ref (q 8)) (C := RX3) (T := TX3) (N := 33) hx hb hts hinX3 hown hK hP 0 rfl rfl 8 (by decide) (hts (.fieldLink RX3 32 "TroubleCodesModel" "code" "[I") (mem_at 6 rfl)) (fun _ h9 => h9) rfl dX3_end_97 ?_
                refine lv_iload_n hx hb dX3_end_100 rfl (lv_at hl 3 rfl) ?_
                refine x_iald (k := k) (f := x 8) hx hb hK hP 8 rfl (by omega) (by decide) dX3_end_101 ?_
                refine lv_iconst (v := 3) hx hb dX3_end_102 (by decide) ?_
                refine lv_icmp_ne (tgt := 121) hx hb dX3_end_103 (by decide) (fun c_7 => ?_) (fun c_7 => ?_)
                · refine lv_iload_n hx hb dX3_end_121 rfl (lv_at hl 2 rfl) ?_
                  refine lv_aload_n hx hb dX3_end_122 rfl (lv_at hl 1 rfl) ?_
                  refine va_get (D := D) (ci := 3) (v := .ref (q 15)) (C := RX3) (T := TX3) (N := 33) hx hb hts hinX3 hown hK hP 0 rfl rfl 15 (by decide) (hts (.fieldLink RX3 53 "TroubleCodesModel" "sets" "[I") (mem_at 3 rfl)) (fun _ h9 => h9) rfl dX3_end_123 ?_
                  refine lv_iload_n hx hb dX3_end_126 rfl (lv_at hl 3 rfl) ?_
                  refine x_iald (k := k) (f := x 15) hx hb hK hP 15 rfl (by omega) (by decide) dX3_end_127 ?_
                  refine lv_iload_n hx hb dX3_end_128 rfl (lv_at hl 0 rfl) ?_
                  refine lv_isub hx hb dX3_end_129 ?_
                  refine lv_iadd hx hb dX3_end_130 ?_
                  refine lv_istore_n (lv' := [(1, .int (((endF g n k).2) + ((x 15 k) - (x 15 k)))), (3, .int (x 15 k)), (0, .ref o), (2, .int (nI k))]) hx hb dX3_end_131 rfl hl (by decide) rfl (fun ls hl => ?_)
                  refine lv_iinc (v := nI (k + 1)) (lv' := [(2, .int (nI (k + 1))), (1, .int (((endF g n k).2) + ((x 15 k) - (x 15 k)))), (3, .int (x 15 k)), (0, .ref o)]) hx hb dX3_end_132 hl (k := 3) rfl (nI_1 _) (by decide) rfl (fun ls hl => ?_)
                  refine lv_goto (tgt := 19) hx hb dX3_end_135 (by decide) ?_
                  have es_8 : stepE x n k = va_up x 12 (upd (x 12) k (if (x 12 k) = 0 then (if (x 14 k) ≤ 0 then 0 else 1) else 1)) := by
                    unfold stepE
                    simp only
                    rw [if_neg c_5, if_neg c_6]
                    rw [if_neg (fun h => c_7 h.1)]
                  have es_81 : (endF g n (k + 1)).1 = va_up x 12 (upd (x 12) k (if (x 12 k) = 0 then (if (x 14 k) ≤ 0 then 0 else 1) else 1)) := by rw [endF, ← ex]; exact es_8
                  have es_82 : (endF g n (k + 1)).2 = ((endF g n k).2) + ((x 15 k) - (x 15 k)) := by rw [endF, ← ex]; simp only [es_8] <;> rfl
                  have q_9 : ((endF g n (k + 1)).1) = va_up x 12 (upd (x 12) k (if (x 12 k) = 0 then (if (x 14 k) ≤ 0 then 0 else 1) else 1)) := by exact es_81
                  exact ih (k + 1) (by omega) (by omega) H locs ls (by rw [q_9]; exact hP) (by rw [q_9]; exact hD) hS (by rw [es_82]; exact lv_sub hl [3, 1, 0] rfl)
                · refine lv_aload_n hx hb dX3_end_106 rfl (lv_at hl 1 rfl) ?_
                  refine va_get (D := D) (ci := 3) (v := .ref (q 14)) (C := RX3) (T := TX3) (N := 33) hx hb hts hinX3 hown hK hP 0 rfl rfl 14 (by decide) (hts (.fieldLink RX3 50 "TroubleCodesModel" "told" "[I") (mem_at 5 rfl)) (fun _ h9 => h9) rfl dX3_end_107 ?_
                  refine lv_iload_n hx hb dX3_end_110 rfl (lv_at hl 3 rfl) ?_
                  refine x_iald (k := k) (f := x 14) hx hb hK hP 14 rfl (by omega) (by decide) dX3_end_111 ?_
                  refine lv_iconst (v := 2) hx hb dX3_end_112 (by decide) ?_
                  refine lv_icmp_eq (tgt := 121) hx hb dX3_end_113 (by decide) (fun c_10 => ?_) (fun c_10 => ?_)
                  · refine lv_iload_n hx hb dX3_end_121 rfl (lv_at hl 2 rfl) ?_
                    refine lv_aload_n hx hb dX3_end_122 rfl (lv_at hl 1 rfl) ?_
                    refine va_get (D := D) (ci := 3) (v := .ref (q 15)) (C := RX3) (T := TX3) (N := 33) hx hb hts hinX3 hown hK hP 0 rfl rfl 15 (by decide) (hts (.fieldLink RX3 53 "TroubleCodesModel" "sets" "[I") (mem_at 3 rfl)) (fun _ h9 => h9) rfl dX3_end_123 ?_
                    refine lv_iload_n hx hb dX3_end_126 rfl (lv_at hl 3 rfl) ?_
                    refine x_iald (k := k) (f := x 15) hx hb hK hP 15 rfl (by omega) (by decide) dX3_end_127 ?_
                    refine lv_iload_n hx hb dX3_end_128 rfl (lv_at hl 0 rfl) ?_
                    refine lv_isub hx hb dX3_end_129 ?_
                    refine lv_iadd hx hb dX3_end_130 ?_
                    refine lv_istore_n (lv' := [(1, .int (((endF g n k).2) + ((x 15 k) - (x 15 k)))), (3, .int (x 15 k)), (0, .ref o), (2, .int (nI k))]) hx hb dX3_end_131 rfl hl (by decide) rfl (fun ls hl => ?_)
                    refine lv_iinc (v := nI (k + 1)) (lv' := [(2, .int (nI (k + 1))), (1, .int (((endF g n k).2) + ((x 15 k) - (x 15 k)))), (3, .int (x 15 k)), (0, .ref o)]) hx hb dX3_end_132 hl (k := 3) rfl (nI_1 _) (by decide) rfl (fun ls hl => ?_)
                    refine lv_goto (tgt := 19) hx hb dX3_end_135 (by decide) ?_
                    have es_11 : stepE x n k = va_up x 12 (upd (x 12) k (if (x 12 k) = 0 then (if (x 14 k) ≤ 0 then 0 else 1) else 1)) := by
                      unfold stepE
                      simp only
                      rw [if_neg c_5, if_neg c_6]
                      rw [if_neg (fun h => h.2 c_10)]
                    have es_111 : (endF g n (k + 1)).1 = va_up x 12 (upd (x 12) k (if (x 12 k) = 0 then (if (x 14 k) ≤ 0 then 0 else 1) else 1)) := by rw [endF, ← ex]; exact es_11
                    have es_112 : (endF g n (k + 1)).2 = ((endF g n k).2) + ((x 15 k) - (x 15 k)) := by rw [endF, ← ex]; simp only [es_11] <;> rfl
                    have q_12 : ((endF g n (k + 1)).1) = va_up x 12 (upd (x 12) k (if (x 12 k) = 0 then (if (x 14 k) ≤ 0 then 0 else 1) else 1)) := by exact es_111
                    exact ih (k + 1) (by omega) (by omega) H locs ls (by rw [q_12]; exact hP) (by rw [q_12]; exact hD) hS (by rw [es_112]; exact lv_sub hl [3, 1, 0] rfl)
                  · refine lv_aload_n hx hb dX3_end_116 rfl (lv_at hl 1 rfl) ?_
                    refine lv_iload_n hx hb dX3_end_117 rfl (lv_at hl 3 rfl) ?_
                    refine x_wvW (As := [.int (nI k)]) (rest := []) ⟨hx, hb, hml, hown, hts⟩ (tX3_ages l D cI cZ cC q o (va_up x 12 (upd (x 12) k (if (x 12 k) = 0 then (if (x 14 k) ≤ 0 then 0 else 1) else 1))) k (by omega)) (cwV 1 hts gX3_end_X3_ages rfl rfl rfl (by decide +kernel) ⟨Nat.le_of_ble_eq_true rfl, Nat.le_of_ble_eq_true rfl⟩) hK (x_recv (ci := 3) hK hP rfl (q0 := 0) rfl) hP hD hS hA rfl hl.1 rfl (Nat.le_of_ble_eq_true rfl) dX3_end_118 ⟨Nat.le_of_ble_eq_true rfl, Nat.le_of_ble_eq_true rfl⟩ (fun H locs hP hD hS => ?_)
                    refine lv_iload_n hx hb dX3_end_121 rfl (lv_at hl 2 rfl) ?_
                    refine lv_aload_n hx hb dX3_end_122 rfl (lv_at hl 1 rfl) ?_
                    refine va_get (D := D) (ci := 3) (v := .ref (q 15)) (C := RX3) (T := TX3) (N := 33) hx hb hts hinX3 hown hK hP 0 rfl rfl 15 (by decide) (hts (.fieldLink RX3 53 "TroubleCodesModel" "sets" "[I") (mem_at 3 rfl)) (fun _ h9 => h9) rfl dX3_end_123 ?_
                    refine lv_iload_n hx hb dX3_end_126 rfl (lv_at hl 3 rfl) ?_
                    refine x_iald (k := k) (f := (fX3_ages (va_up x 12 (upd (x 12) k (if (x 12 k) = 0 then (if (x 14 k) ≤ 0 then 0 else 1) else 1))) k) 15) hx hb hK hP 15 rfl (by omega) (by decide) dX3_end_127 ?_
                    refine lv_iload_n hx hb dX3_end_128 rfl (lv_at hl 0 rfl) ?_
                    refine lv_isub hx hb dX3_end_129 ?_
                    refine lv_iadd hx hb dX3_end_130 ?_
                    refine lv_istore_n (lv' := [(1, .int (((endF g n k).2) + (((fX3_ages (va_up x 12 (upd (x 12) k (if (x 12 k) = 0 then (if (x 14 k) ≤ 0 then 0 else 1) else 1))) k) 15 k) - (x 15 k)))), (3, .int (x 15 k)), (0, .ref o), (2, .int (nI k))]) hx hb dX3_end_131 rfl hl (by decide) rfl (fun ls hl => ?_)
                    refine lv_iinc (v := nI (k + 1)) (lv' := [(2, .int (nI (k + 1))), (1, .int (((endF g n k).2) + (((fX3_ages (va_up x 12 (upd (x 12) k (if (x 12 k) = 0 then (if (x 14 k) ≤ 0 then 0 else 1) else 1))) k) 15 k) - (x 15 k)))), (3, .int (x 15 k)), (0, .ref o)]) hx hb dX3_end_132 hl (k := 3) rfl (nI_1 _) (by decide) rfl (fun ls hl => ?_)
                    refine lv_goto (tgt := 19) hx hb dX3_end_135 (by decide) ?_
                    have es_13 : stepE x n k = (fX3_ages (va_up x 12 (upd (x 12) k (if (x 12 k) = 0 then (if (x 14 k) ≤ 0 then 0 else 1) else 1))) k) := by
                      unfold stepE
                      simp only
                      rw [if_neg c_5, if_neg c_6]
                      rw [if_pos ⟨c_7, c_10⟩]
                    have es_131 : (endF g n (k + 1)).1 = (fX3_ages (va_up x 12 (upd (x 12) k (if (x 12 k) = 0 then (if (x 14 k) ≤ 0 then 0 else 1) else 1))) k) := by rw [endF, ← ex]; exact es_13
                    have es_132 : (endF g n (k + 1)).2 = ((endF g n k).2) + (((fX3_ages (va_up x 12 (upd (x 12) k (if (x 12 k) = 0 then (if (x 14 k) ≤ 0 then 0 else 1) else 1))) k) 15 k) - (x 15 k)) := by rw [endF, ← ex]; simp only [es_13] <;> rfl
                    have q_14 : ((endF g n (k + 1)).1) = (fX3_ages (va_up x 12 (upd (x 12) k (if (x 12 k) = 0 then (if (x 14 k) ≤ 0 then 0 else 1) else 1))) k) := by exact es_131
                    exact ih (k + 1) (by omega) (by omega) H locs ls (by rw [q_14]; exact hP) (by rw [q_14]; exact hD) hS (by rw [es_132]; exact lv_sub hl [3, 1, 0] rfl)
              · refine lv_aload_n hx hb dX3_end_91 rfl (lv_at hl 1 rfl) ?_
                refine lv_iload_n hx hb dX3_end_92 rfl (lv_at hl 3 rfl) ?_
                refine x_wvW (As := [.int (nI k)]) (rest := []) ⟨hx, hb, hml, hown, hts⟩ (tX3_wasGood l D cI cZ cC q o (va_up x 12 (upd (x 12) k (if (x 12 k) = 0 then (if (x 14 k) ≤ 0 then 0 else 1) else 1))) k (by omega)) (cwV 1 hts gX3_end_X3_wasGood rfl rfl rfl (by decide +kernel) ⟨Nat.le_of_ble_eq_true rfl, Nat.le_of_ble_eq_true rfl⟩) hK (x_recv (ci := 3) hK hP rfl (q0 := 0) rfl) hP hD hS hA rfl hl.1 rfl (Nat.le_of_ble_eq_true rfl) dX3_end_93 ⟨Nat.le_of_ble_eq_true rfl, Nat.le_of_ble_eq_true rfl⟩ (fun H locs hP hD hS => ?_)
                refine lv_aload_n hx hb dX3_end_96 rfl (lv_at hl 1 rfl) ?_
                refine va_get (D := D) (ci := 3) (v := .ref (q 8)) (C := RX3) (T := TX3) (N := 33) hx hb hts hinX3 hown hK hP 0 rfl rfl 8 (by decide) (hts (.fieldLink RX3 32 "TroubleCodesModel" "code" "[I") (mem_at 6 rfl)) (fun _ h9 => h9) rfl dX3_end_97 ?_
                refine lv_iload_n hx hb dX3_end_100 rfl (lv_at hl 3 rfl) ?_
                refine x_iald (k := k) (f := (fX3_wasGood (va_up x 12 (upd (x 12) k (if (x 12 k) = 0 then (if (x 14 k) ≤ 0 then 0 else 1) else 1))) k) 8) hx hb hK hP 8 rfl (by omega) (by decide) dX3_end_101 ?_
                refine lv_iconst (v := 3) hx hb dX3_end_102 (by decide) ?_
                refine lv_icmp_ne (tgt := 121) hx hb dX3_end_103 (by decide) (fun c_15 => ?_) (fun c_15 => ?_)
                · refine lv_iload_n hx hb dX3_end_121 rfl (lv_at hl 2 rfl) ?_
                  refine lv_aload_n hx hb dX3_end_122 rfl (lv_at hl 1 rfl) ?_
                  refine va_get (D := D) (ci := 3) (v := .ref (q 15)) (C := RX3) (T := TX3) (N := 33) hx hb hts hinX3 hown hK hP 0 rfl rfl 15 (by decide) (hts (.fieldLink RX3 53 "TroubleCodesModel" "sets" "[I") (mem_at 3 rfl)) (fun _ h9 => h9) rfl dX3_end_123 ?_
                  refine lv_iload_n hx hb dX3_end_126 rfl (lv_at hl 3 rfl) ?_
                  refine x_iald (k := k) (f := (fX3_wasGood (va_up x 12 (upd (x 12) k (if (x 12 k) = 0 then (if (x 14 k) ≤ 0 then 0 else 1) else 1))) k) 15) hx hb hK hP 15 rfl (by omega) (by decide) dX3_end_127 ?_
                  refine lv_iload_n hx hb dX3_end_128 rfl (lv_at hl 0 rfl) ?_
                  refine lv_isub hx hb dX3_end_129 ?_
                  refine lv_iadd hx hb dX3_end_130 ?_
                  refine lv_istore_n (lv' := [(1, .int (((endF g n k).2) + (((fX3_wasGood (va_up x 12 (upd (x 12) k (if (x 12 k) = 0 then (if (x 14 k) ≤ 0 then 0 else 1) else 1))) k) 15 k) - (x 15 k)))), (3, .int (x 15 k)), (0, .ref o), (2, .int (nI k))]) hx hb dX3_end_131 rfl hl (by decide) rfl (fun ls hl => ?_)
                  refine lv_iinc (v := nI (k + 1)) (lv' := [(2, .int (nI (k + 1))), (1, .int (((endF g n k).2) + (((fX3_wasGood (va_up x 12 (upd (x 12) k (if (x 12 k) = 0 then (if (x 14 k) ≤ 0 then 0 else 1) else 1))) k) 15 k) - (x 15 k)))), (3, .int (x 15 k)), (0, .ref o)]) hx hb dX3_end_132 hl (k := 3) rfl (nI_1 _) (by decide) rfl (fun ls hl => ?_)
                  refine lv_goto (tgt := 19) hx hb dX3_end_135 (by decide) ?_
                  have es_16 : stepE x n k = (fX3_wasGood (va_up x 12 (upd (x 12) k (if (x 12 k) = 0 then (if (x 14 k) ≤ 0 then 0 else 1) else 1))) k) := by
                    unfold stepE
                    simp only
                    rw [if_neg c_5, if_pos c_6]
                    rw [if_neg (fun h => c_15 h.1)]
                  have es_161 : (endF g n (k + 1)).1 = (fX3_wasGood (va_up x 12 (upd (x 12) k (if (x 12 k) = 0 then (if (x 14 k) ≤ 0 then 0 else 1) else 1))) k) := by rw [endF, ← ex]; exact es_16
                  have es_162 : (endF g n (k + 1)).2 = ((endF g n k).2) + (((fX3_wasGood (va_up x 12 (upd (x 12) k (if (x 12 k) = 0 then (if (x 14 k) ≤ 0 then 0 else 1) else 1))) k) 15 k) - (x 15 k)) := by rw [endF, ← ex]; simp only [es_16] <;> rfl
                  have q_17 : ((endF g n (k + 1)).1) = (fX3_wasGood (va_up x 12 (upd (x 12) k (if (x 12 k) = 0 then (if (x 14 k) ≤ 0 then 0 else 1) else 1))) k) := by exact es_161
                  exact ih (k + 1) (by omega) (by omega) H locs ls (by rw [q_17]; exact hP) (by rw [q_17]; exact hD) hS (by rw [es_162]; exact lv_sub hl [3, 1, 0] rfl)
                · refine lv_aload_n hx hb dX3_end_106 rfl (lv_at hl 1 rfl) ?_
                  refine va_get (D := D) (ci := 3) (v := .ref (q 14)) (C := RX3) (T := TX3) (N := 33) hx hb hts hinX3 hown hK hP 0 rfl rfl 14 (by decide) (hts (.fieldLink RX3 50 "TroubleCodesModel" "told" "[I") (mem_at 5 rfl)) (fun _ h9 => h9) rfl dX3_end_107 ?_
                  refine lv_iload_n hx hb dX3_end_110 rfl (lv_at hl 3 rfl) ?_
                  refine x_iald (k := k) (f := (fX3_wasGood (va_up x 12 (upd (x 12) k (if (x 12 k) = 0 then (if (x 14 k) ≤ 0 then 0 else 1) else 1))) k) 14) hx hb hK hP 14 rfl (by omega) (by decide) dX3_end_111 ?_
                  refine lv_iconst (v := 2) hx hb dX3_end_112 (by decide) ?_
                  refine lv_icmp_eq (tgt := 121) hx hb dX3_end_113 (by decide) (fun c_18 => ?_) (fun c_18 => ?_)
                  · refine lv_iload_n hx hb dX3_end_121 rfl (lv_at hl 2 rfl) ?_
                    refine lv_aload_n hx hb dX3_end_122 rfl (lv_at hl 1 rfl) ?_
                    refine va_get (D := D) (ci := 3) (v := .ref (q 15)) (C := RX3) (T := TX3) (N := 33) hx hb hts hinX3 hown hK hP 0 rfl rfl 15 (by decide) (hts (.fieldLink RX3 53 "TroubleCodesModel" "sets" "[I") (mem_at 3 rfl)) (fun _ h9 => h9) rfl dX3_end_123 ?_
                    refine lv_iload_n hx hb dX3_end_126 rfl (lv_at hl 3 rfl) ?_
                    refine x_iald (k := k) (f := (fX3_wasGood (va_up x 12 (upd (x 12) k (if (x 12 k) = 0 then (if (x 14 k) ≤ 0 then 0 else 1) else 1))) k) 15) hx hb hK hP 15 rfl (by omega) (by decide) dX3_end_127 ?_
                    refine lv_iload_n hx hb dX3_end_128 rfl (lv_at hl 0 rfl) ?_
                    refine lv_isub hx hb dX3_end_129 ?_
                    refine lv_iadd hx hb dX3_end_130 ?_
                    refine lv_istore_n (lv' := [(1, .int (((endF g n k).2) + (((fX3_wasGood (va_up x 12 (upd (x 12) k (if (x 12 k) = 0 then (if (x 14 k) ≤ 0 then 0 else 1) else 1))) k) 15 k) - (x 15 k)))), (3, .int (x 15 k)), (0, .ref o), (2, .int (nI k))]) hx hb dX3_end_131 rfl hl (by decide) rfl (fun ls hl => ?_)
                    refine lv_iinc (v := nI (k + 1)) (lv' := [(2, .int (nI (k + 1))), (1, .int (((endF g n k).2) + (((fX3_wasGood (va_up x 12 (upd (x 12) k (if (x 12 k) = 0 then (if (x 14 k) ≤ 0 then 0 else 1) else 1))) k) 15 k) - (x 15 k)))), (3, .int (x 15 k)), (0, .ref o)]) hx hb dX3_end_132 hl (k := 3) rfl (nI_1 _) (by decide) rfl (fun ls hl => ?_)
                    refine lv_goto (tgt := 19) hx hb dX3_end_135 (by decide) ?_
                    have es_19 : stepE x n k = (fX3_wasGood (va_up x 12 (upd (x 12) k (if (x 12 k) = 0 then (if (x 14 k) ≤ 0 then 0 else 1) else 1))) k) := by
                      unfold stepE
                      simp only
                      rw [if_neg c_5, if_pos c_6]
                      rw [if_neg (fun h => h.2 c_18)]
                    have es_191 : (endF g n (k + 1)).1 = (fX3_wasGood (va_up x 12 (upd (x 12) k (if (x 12 k) = 0 then (if (x 14 k) ≤ 0 then 0 else 1) else 1))) k) := by rw [endF, ← ex]; exact es_19
                    have es_192 : (endF g n (k + 1)).2 = ((endF g n k).2) + (((fX3_wasGood (va_up x 12 (upd (x 12) k (if (x 12 k) = 0 then (if (x 14 k) ≤ 0 then 0 else 1) else 1))) k) 15 k) - (x 15 k)) := by rw [endF, ← ex]; simp only [es_19] <;> rfl
                    have q_20 : ((endF g n (k + 1)).1) = (fX3_wasGood (va_up x 12 (upd (x 12) k (if (x 12 k) = 0 then (if (x 14 k) ≤ 0 then 0 else 1) else 1))) k) := by exact es_191
                    exact ih (k + 1) (by omega) (by omega) H locs ls (by rw [q_20]; exact hP) (by rw [q_20]; exact hD) hS (by rw [es_192]; exact lv_sub hl [3, 1, 0] rfl)
                  · refine lv_aload_n hx hb dX3_end_116 rfl (lv_at hl 1 rfl) ?_
                    refine lv_iload_n hx hb dX3_end_117 rfl (lv_at hl 3 rfl) ?_
                    refine x_wvW (As := [.int (nI k)]) (rest := []) ⟨hx, hb, hml, hown, hts⟩ (tX3_ages l D cI cZ cC q o (fX3_wasGood (va_up x 12 (upd (x 12) k (if (x 12 k) = 0 then (if (x 14 k) ≤ 0 then 0 else 1) else 1))) k) k (by omega)) (cwV 1 hts gX3_end_X3_ages rfl rfl rfl (by decide +kernel) ⟨Nat.le_of_ble_eq_true rfl, Nat.le_of_ble_eq_true rfl⟩) hK (x_recv (ci := 3) hK hP rfl (q0 := 0) rfl) hP hD hS hA rfl hl.1 rfl (Nat.le_of_ble_eq_true rfl) dX3_end_118 ⟨Nat.le_of_ble_eq_true rfl, Nat.le_of_ble_eq_true rfl⟩ (fun H locs hP hD hS => ?_)
                    refine lv_iload_n hx hb dX3_end_121 rfl (lv_at hl 2 rfl) ?_
                    refine lv_aload_n hx hb dX3_end_122 rfl (lv_at hl 1 rfl) ?_
                    refine va_get (D := D) (ci := 3) (v := .ref (q 15)) (C := RX3) (T := TX3) (N := 33) hx hb hts hinX3 hown hK hP 0 rfl rfl 15 (by decide) (hts (.fieldLink RX3 53 "TroubleCodesModel" "sets" "[I") (mem_at 3 rfl)) (fun _ h9 => h9) rfl dX3_end_123 ?_
                    refine lv_iload_n hx hb dX3_end_126 rfl (lv_at hl 3 rfl) ?_
                    refine x_iald (k := k) (f := (fX3_ages (fX3_wasGood (va_up x 12 (upd (x 12) k (if (x 12 k) = 0 then (if (x 14 k) ≤ 0 then 0 else 1) else 1))) k) k) 15) hx hb hK hP 15 rfl (by omega) (by decide) dX3_end_127 ?_
                    refine lv_iload_n hx hb dX3_end_128 rfl (lv_at hl 0 rfl) ?_
                    refine lv_isub hx hb dX3_end_129 ?_
                    refine lv_iadd hx hb dX3_end_130 ?_
                    refine lv_istore_n (lv' := [(1, .int (((endF g n k).2) + (((fX3_ages (fX3_wasGood (va_up x 12 (upd (x 12) k (if (x 12 k) = 0 then (if (x 14 k) ≤ 0 then 0 else 1) else 1))) k) k) 15 k) - (x 15 k)))), (3, .int (x 15 k)), (0, .ref o), (2, .int (nI k))]) hx hb dX3_end_131 rfl hl (by decide) rfl (fun ls hl => ?_)
                    refine lv_iinc (v := nI (k + 1)) (lv' := [(2, .int (nI (k + 1))), (1, .int (((endF g n k).2) + (((fX3_ages (fX3_wasGood (va_up x 12 (upd (x 12) k (if (x 12 k) = 0 then (if (x 14 k) ≤ 0 then 0 else 1) else 1))) k) k) 15 k) - (x 15 k)))), (3, .int (x 15 k)), (0, .ref o)]) hx hb dX3_end_132 hl (k := 3) rfl (nI_1 _) (by decide) rfl (fun ls hl => ?_)
                    refine lv_goto (tgt := 19) hx hb dX3_end_135 (by decide) ?_
                    have es_21 : stepE x n k = (fX3_ages (fX3_wasGood (va_up x 12 (upd (x 12) k (if (x 12 k) = 0 then (if (x 14 k) ≤ 0 then 0 else 1) else 1))) k) k) := by
                      unfold stepE
                      simp only
                      rw [if_neg c_5, if_pos c_6]
                      rw [if_pos ⟨c_15, c_18⟩]
                    have es_211 : (endF g n (k + 1)).1 = (fX3_ages (fX3_wasGood (va_up x 12 (upd (x 12) k (if (x 12 k) = 0 then (if (x 14 k) ≤ 0 then 0 else 1) else 1))) k) k) := by rw [endF, ← ex]; exact es_21
                    have es_212 : (endF g n (k + 1)).2 = ((endF g n k).2) + (((fX3_ages (fX3_wasGood (va_up x 12 (upd (x 12) k (if (x 12 k) = 0 then (if (x 14 k) ≤ 0 then 0 else 1) else 1))) k) k) 15 k) - (x 15 k)) := by rw [endF, ← ex]; simp only [es_21] <;> rfl
                    have q_22 : ((endF g n (k + 1)).1) = (fX3_ages (fX3_wasGood (va_up x 12 (upd (x 12) k (if (x 12 k) = 0 then (if (x 14 k) ≤ 0 then 0 else 1) else 1))) k) k) := by exact es_211
                    exact ih (k + 1) (by omega) (by omega) H locs ls (by rw [q_22]; exact hP) (by rw [q_22]; exact hD) hS (by rw [es_212]; exact lv_sub hl [3, 1, 0] rfl)
            · refine lv_aload_n hx hb dX3_end_73 rfl (lv_at hl 1 rfl) ?_
              refine lv_iload_n hx hb dX3_end_74 rfl (lv_at hl 3 rfl) ?_
              refine x_wvW (As := [.int (nI k)]) (rest := []) ⟨hx, hb, hml, hown, hts⟩ (tX3_wasBad l D cI cZ cC q o (va_up x 12 (upd (x 12) k (if (x 12 k) = 0 then (if (x 14 k) ≤ 0 then 0 else 1) else 1))) n hnx hnb k (by omega) hfox) (cwV 1 hts gX3_end_X3_wasBad rfl rfl rfl (by decide +kernel) ⟨Nat.le_of_ble_eq_true rfl, Nat.le_of_ble_eq_true rfl⟩) hK (x_recv (ci := 3) hK hP rfl (q0 := 0) rfl) hP hD hS hA rfl hl.1 rfl (Nat.le_of_ble_eq_true rfl) dX3_end_75 ⟨Nat.le_of_ble_eq_true rfl, Nat.le_of_ble_eq_true rfl⟩ (fun H locs hP hD hS => ?_)
              refine lv_goto (tgt := 96) hx hb dX3_end_78 (by decide) ?_
              refine lv_aload_n hx hb dX3_end_96 rfl (lv_at hl 1 rfl) ?_
              refine va_get (D := D) (ci := 3) (v := .ref (q 8)) (C := RX3) (T := TX3) (N := 33) hx hb hts hinX3 hown hK hP 0 rfl rfl 8 (by decide) (hts (.fieldLink RX3 32 "TroubleCodesModel" "code" "[I") (mem_at 6 rfl)) (fun _ h9 => h9) rfl dX3_end_97 ?_
              refine lv_iload_n hx hb dX3_end_100 rfl (lv_at hl 3 rfl) ?_
              refine x_iald (k := k) (f := (fX3_wasBad (va_up x 12 (upd (x 12) k (if (x 12 k) = 0 then (if (x 14 k) ≤ 0 then 0 else 1) else 1))) n k) 8) hx hb hK hP 8 rfl (by omega) (by decide) dX3_end_101 ?_
              refine lv_iconst (v := 3) hx hb dX3_end_102 (by decide) ?_
              refine lv_icmp_ne (tgt := 121) hx hb dX3_end_103 (by decide) (fun c_23 => ?_) (fun c_23 => ?_)
              · refine lv_iload_n hx hb dX3_end_121 rfl (lv_at hl 2 rfl) ?_
                refine lv_aload_n hx hb dX3_end_122 rfl (lv_at hl 1 rfl) ?_
                refine va_get (D := D) (ci := 3) (v := .ref (q 15)) (C := RX3) (T := TX3) (N := 33) hx hb hts hinX3 hown hK hP 0 rfl rfl 15 (by decide) (hts (.fieldLink RX3 53 "TroubleCodesModel" "sets" "[I") (mem_at 3 rfl)) (fun _ h9 => h9) rfl dX3_end_123 ?_
                refine lv_iload_n hx hb dX3_end_126 rfl (lv_at hl 3 rfl) ?_
                refine x_iald (k := k) (f := (fX3_wasBad (va_up x 12 (upd (x 12) k (if (x 12 k) = 0 then (if (x 14 k) ≤ 0 then 0 else 1) else 1))) n k) 15) hx hb hK hP 15 rfl (by omega) (by decide) dX3_end_127 ?_
                refine lv_iload_n hx hb dX3_end_128 rfl (lv_at hl 0 rfl) ?_
                refine lv_isub hx hb dX3_end_129 ?_
                refine lv_iadd hx hb dX3_end_130 ?_
                refine lv_istore_n (lv' := [(1, .int (((endF g n k).2) + (((fX3_wasBad (va_up x 12 (upd (x 12) k (if (x 12 k) = 0 then (if (x 14 k) ≤ 0 then 0 else 1) else 1))) n k) 15 k) - (x 15 k)))), (3, .int (x 15 k)), (0, .ref o), (2, .int (nI k))]) hx hb dX3_end_131 rfl hl (by decide) rfl (fun ls hl => ?_)
                refine lv_iinc (v := nI (k + 1)) (lv' := [(2, .int (nI (k + 1))), (1, .int (((endF g n k).2) + (((fX3_wasBad (va_up x 12 (upd (x 12) k (if (x 12 k) = 0 then (if (x 14 k) ≤ 0 then 0 else 1) else 1))) n k) 15 k) - (x 15 k)))), (3, .int (x 15 k)), (0, .ref o)]) hx hb dX3_end_132 hl (k := 3) rfl (nI_1 _) (by decide) rfl (fun ls hl => ?_)
                refine lv_goto (tgt := 19) hx hb dX3_end_135 (by decide) ?_
                have es_24 : stepE x n k = (fX3_wasBad (va_up x 12 (upd (x 12) k (if (x 12 k) = 0 then (if (x 14 k) ≤ 0 then 0 else 1) else 1))) n k) := by
                  unfold stepE
                  simp only
                  rw [if_pos c_5]
                  rw [if_neg (fun h => c_23 h.1)]
                have es_241 : (endF g n (k + 1)).1 = (fX3_wasBad (va_up x 12 (upd (x 12) k (if (x 12 k) = 0 then (if (x 14 k) ≤ 0 then 0 else 1) else 1))) n k) := by rw [endF, ← ex]; exact es_24
                have es_242 : (endF g n (k + 1)).2 = ((endF g n k).2) + (((fX3_wasBad (va_up x 12 (upd (x 12) k (if (x 12 k) = 0 then (if (x 14 k) ≤ 0 then 0 else 1) else 1))) n k) 15 k) - (x 15 k)) := by rw [endF, ← ex]; simp only [es_24] <;> rfl
                have q_25 : ((endF g n (k + 1)).1) = (fX3_wasBad (va_up x 12 (upd (x 12) k (if (x 12 k) = 0 then (if (x 14 k) ≤ 0 then 0 else 1) else 1))) n k) := by exact es_241
                exact ih (k + 1) (by omega) (by omega) H locs ls (by rw [q_25]; exact hP) (by rw [q_25]; exact hD) hS (by rw [es_242]; exact lv_sub hl [3, 1, 0] rfl)
              · refine lv_aload_n hx hb dX3_end_106 rfl (lv_at hl 1 rfl) ?_
                refine va_get (D := D) (ci := 3) (v := .ref (q 14)) (C := RX3) (T := TX3) (N := 33) hx hb hts hinX3 hown hK hP 0 rfl rfl 14 (by decide) (hts (.fieldLink RX3 50 "TroubleCodesModel" "told" "[I") (mem_at 5 rfl)) (fun _ h9 => h9) rfl dX3_end_107 ?_
                refine lv_iload_n hx hb dX3_end_110 rfl (lv_at hl 3 rfl) ?_
                refine x_iald (k := k) (f := (fX3_wasBad (va_up x 12 (upd (x 12) k (if (x 12 k) = 0 then (if (x 14 k) ≤ 0 then 0 else 1) else 1))) n k) 14) hx hb hK hP 14 rfl (by omega) (by decide) dX3_end_111 ?_
                refine lv_iconst (v := 2) hx hb dX3_end_112 (by decide) ?_
                refine lv_icmp_eq (tgt := 121) hx hb dX3_end_113 (by decide) (fun c_26 => ?_) (fun c_26 => ?_)
                · refine lv_iload_n hx hb dX3_end_121 rfl (lv_at hl 2 rfl) ?_
                  refine lv_aload_n hx hb dX3_end_122 rfl (lv_at hl 1 rfl) ?_
                  refine va_get (D := D) (ci := 3) (v := .ref (q 15)) (C := RX3) (T := TX3) (N := 33) hx hb hts hinX3 hown hK hP 0 rfl rfl 15 (by decide) (hts (.fieldLink RX3 53 "TroubleCodesModel" "sets" "[I") (mem_at 3 rfl)) (fun _ h9 => h9) rfl dX3_end_123 ?_
                  refine lv_iload_n hx hb dX3_end_126 rfl (lv_at hl 3 rfl) ?_
                  refine x_iald (k := k) (f := (fX3_wasBad (va_up x 12 (upd (x 12) k (if (x 12 k) = 0 then (if (x 14 k) ≤ 0 then 0 else 1) else 1))) n k) 15) hx hb hK hP 15 rfl (by omega) (by decide) dX3_end_127 ?_
                  refine lv_iload_n hx hb dX3_end_128 rfl (lv_at hl 0 rfl) ?_
                  refine lv_isub hx hb dX3_end_129 ?_
                  refine lv_iadd hx hb dX3_end_130 ?_
                  refine lv_istore_n (lv' := [(1, .int (((endF g n k).2) + (((fX3_wasBad (va_up x 12 (upd (x 12) k (if (x 12 k) = 0 then (if (x 14 k) ≤ 0 then 0 else 1) else 1))) n k) 15 k) - (x 15 k)))), (3, .int (x 15 k)), (0, .ref o), (2, .int (nI k))]) hx hb dX3_end_131 rfl hl (by decide) rfl (fun ls hl => ?_)
                  refine lv_iinc (v := nI (k + 1)) (lv' := [(2, .int (nI (k + 1))), (1, .int (((endF g n k).2) + (((fX3_wasBad (va_up x 12 (upd (x 12) k (if (x 12 k) = 0 then (if (x 14 k) ≤ 0 then 0 else 1) else 1))) n k) 15 k) - (x 15 k)))), (3, .int (x 15 k)), (0, .ref o)]) hx hb dX3_end_132 hl (k := 3) rfl (nI_1 _) (by decide) rfl (fun ls hl => ?_)
                  refine lv_goto (tgt := 19) hx hb dX3_end_135 (by decide) ?_
                  have es_27 : stepE x n k = (fX3_wasBad (va_up x 12 (upd (x 12) k (if (x 12 k) = 0 then (if (x 14 k) ≤ 0 then 0 else 1) else 1))) n k) := by
                    unfold stepE
                    simp only
                    rw [if_pos c_5]
                    rw [if_neg (fun h => h.2 c_26)]
                  have es_271 : (endF g n (k + 1)).1 = (fX3_wasBad (va_up x 12 (upd (x 12) k (if (x 12 k) = 0 then (if (x 14 k) ≤ 0 then 0 else 1) else 1))) n k) := by rw [endF, ← ex]; exact es_27
                  have es_272 : (endF g n (k + 1)).2 = ((endF g n k).2) + (((fX3_wasBad (va_up x 12 (upd (x 12) k (if (x 12 k) = 0 then (if (x 14 k) ≤ 0 then 0 else 1) else 1))) n k) 15 k) - (x 15 k)) := by rw [endF, ← ex]; simp only [es_27] <;> rfl
                  have q_28 : ((endF g n (k + 1)).1) = (fX3_wasBad (va_up x 12 (upd (x 12) k (if (x 12 k) = 0 then (if (x 14 k) ≤ 0 then 0 else 1) else 1))) n k) := by exact es_271
                  exact ih (k + 1) (by omega) (by omega) H locs ls (by rw [q_28]; exact hP) (by rw [q_28]; exact hD) hS (by rw [es_272]; exact lv_sub hl [3, 1, 0] rfl)
                · refine lv_aload_n hx hb dX3_end_116 rfl (lv_at hl 1 rfl) ?_
                  refine lv_iload_n hx hb dX3_end_117 rfl (lv_at hl 3 rfl) ?_
                  refine x_wvW (As := [.int (nI k)]) (rest := []) ⟨hx, hb, hml, hown, hts⟩ (tX3_ages l D cI cZ cC q o (fX3_wasBad (va_up x 12 (upd (x 12) k (if (x 12 k) = 0 then (if (x 14 k) ≤ 0 then 0 else 1) else 1))) n k) k (by omega)) (cwV 1 hts gX3_end_X3_ages rfl rfl rfl (by decide +kernel) ⟨Nat.le_of_ble_eq_true rfl, Nat.le_of_ble_eq_true rfl⟩) hK (x_recv (ci := 3) hK hP rfl (q0 := 0) rfl) hP hD hS hA rfl hl.1 rfl (Nat.le_of_ble_eq_true rfl) dX3_end_118 ⟨Nat.le_of_ble_eq_true rfl, Nat.le_of_ble_eq_true rfl⟩ (fun H locs hP hD hS => ?_)
                  refine lv_iload_n hx hb dX3_end_121 rfl (lv_at hl 2 rfl) ?_
                  refine lv_aload_n hx hb dX3_end_122 rfl (lv_at hl 1 rfl) ?_
                  refine va_get (D := D) (ci := 3) (v := .ref (q 15)) (C := RX3) (T := TX3) (N := 33) hx hb hts hinX3 hown hK hP 0 rfl rfl 15 (by decide) (hts (.fieldLink RX3 53 "TroubleCodesModel" "sets" "[I") (mem_at 3 rfl)) (fun _ h9 => h9) rfl dX3_end_123 ?_
                  refine lv_iload_n hx hb dX3_end_126 rfl (lv_at hl 3 rfl) ?_
                  refine x_iald (k := k) (f := (fX3_ages (fX3_wasBad (va_up x 12 (upd (x 12) k (if (x 12 k) = 0 then (if (x 14 k) ≤ 0 then 0 else 1) else 1))) n k) k) 15) hx hb hK hP 15 rfl (by omega) (by decide) dX3_end_127 ?_
                  refine lv_iload_n hx hb dX3_end_128 rfl (lv_at hl 0 rfl) ?_
                  refine lv_isub hx hb dX3_end_129 ?_
                  refine lv_iadd hx hb dX3_end_130 ?_
                  refine lv_istore_n (lv' := [(1, .int (((endF g n k).2) + (((fX3_ages (fX3_wasBad (va_up x 12 (upd (x 12) k (if (x 12 k) = 0 then (if (x 14 k) ≤ 0 then 0 else 1) else 1))) n k) k) 15 k) - (x 15 k)))), (3, .int (x 15 k)), (0, .ref o), (2, .int (nI k))]) hx hb dX3_end_131 rfl hl (by decide) rfl (fun ls hl => ?_)
                  refine lv_iinc (v := nI (k + 1)) (lv' := [(2, .int (nI (k + 1))), (1, .int (((endF g n k).2) + (((fX3_ages (fX3_wasBad (va_up x 12 (upd (x 12) k (if (x 12 k) = 0 then (if (x 14 k) ≤ 0 then 0 else 1) else 1))) n k) k) 15 k) - (x 15 k)))), (3, .int (x 15 k)), (0, .ref o)]) hx hb dX3_end_132 hl (k := 3) rfl (nI_1 _) (by decide) rfl (fun ls hl => ?_)
                  refine lv_goto (tgt := 19) hx hb dX3_end_135 (by decide) ?_
                  have es_29 : stepE x n k = (fX3_ages (fX3_wasBad (va_up x 12 (upd (x 12) k (if (x 12 k) = 0 then (if (x 14 k) ≤ 0 then 0 else 1) else 1))) n k) k) := by
                    unfold stepE
                    simp only
                    rw [if_pos c_5]
                    rw [if_pos ⟨c_23, c_26⟩]
                  have es_291 : (endF g n (k + 1)).1 = (fX3_ages (fX3_wasBad (va_up x 12 (upd (x 12) k (if (x 12 k) = 0 then (if (x 14 k) ≤ 0 then 0 else 1) else 1))) n k) k) := by rw [endF, ← ex]; exact es_29
                  have es_292 : (endF g n (k + 1)).2 = ((endF g n k).2) + (((fX3_ages (fX3_wasBad (va_up x 12 (upd (x 12) k (if (x 12 k) = 0 then (if (x 14 k) ≤ 0 then 0 else 1) else 1))) n k) k) 15 k) - (x 15 k)) := by rw [endF, ← ex]; simp only [es_29] <;> rfl
                  have q_30 : ((endF g n (k + 1)).1) = (fX3_ages (fX3_wasBad (va_up x 12 (upd (x 12) k (if (x 12 k) = 0 then (if (x 14 k) ≤ 0 then 0 else 1) else 1))) n k) k) := by exact es_291
                  exact ih (k + 1) (by omega) (by omega) H locs ls (by rw [q_30]; exact hP) (by rw [q_30]; exact hD) hS (by rw [es_292]; exact lv_sub hl [3, 1, 0] rfl)
          refine lv_if_ne (tgt := 57) hx hb dX3_end_45 (by decide) (fun c_31 => ?_) (fun c_31 => ?_)
          · refine lv_iconst (v := 1) hx hb dX3_end_57 (by decide) ?_
            refine lv_goto (tgt := 62) hx hb dX3_end_58 (by decide) ?_
            rw [if_neg c_31] at J62_3
            exact J62_3
          · refine lv_aload_n hx hb dX3_end_48 rfl (lv_at hl 1 rfl) ?_
            refine va_get (D := D) (ci := 3) (v := .ref (q 14)) (C := RX3) (T := TX3) (N := 33) hx hb hts hinX3 hown hK hP 0 rfl rfl 14 (by decide) (hts (.fieldLink RX3 50 "TroubleCodesModel" "told" "[I") (mem_at 5 rfl)) (fun _ h9 => h9) rfl dX3_end_49 ?_
            refine lv_iload_n hx hb dX3_end_52 rfl (lv_at hl 3 rfl) ?_
            refine x_iald (k := k) (f := x 14) hx hb hK hP 14 rfl (by omega) (by decide) dX3_end_53 ?_
            refine lv_if_le (tgt := 61) hx hb dX3_end_54 (by decide) (fun c_32 => ?_) (fun c_32 => ?_)
            · refine lv_iconst (v := 0) hx hb dX3_end_61 (by decide) ?_
              rw [if_pos c_31, if_pos c_32] at J62_3
              exact J62_3
            · refine lv_iconst (v := 1) hx hb dX3_end_57 (by decide) ?_
              refine lv_goto (tgt := 62) hx hb dX3_end_58 (by decide) ?_
              rw [if_pos c_31, if_neg c_32] at J62_3
              exact J62_3
    have q_33 : ((endF g n 0).2 : Int32) = 0 := by rfl
    have q_34 : (nI 0 : Int32) = 0 := by rfl
    exact LOOP_2 (n - 0 + 1) 0 (Nat.zero_le _) (Nat.lt_succ_self _) _ _ ls (by skip; exact hP) (by skip; exact hD) hS (by rw [q_33, q_34]; exact lv_sub hl [2, 1, 0] rfl)
  · refine lv_bipush (v := (-3)) hx hb dX3_end_7 (by decide) ?_
    have es : fX3_end g n = (-3, g) := by rw [fX3_end]; rw [if_pos c_1]
    exact hret 9 _ _ _ _ (by rw [es]) (by rw [es]; exact hP) (by rw [es]; exact hD) hS rfl dX3_end_9
end
section
def fX3_check (g : Nat → Nat → Int32) (x1 x2 x3 x4 x5 x6 x7 : Int32) : Int32 × (Nat → Nat → Int32) := if 0 ≤ x1 ∧ x1 ≤ 2 then (if x1 = 2 then (if 0 ≤ x2 ∧ x2 ≤ (g 0 0 - 1) then (if 1 ≤ x3 ∧ x3 ≤ 9 then (if 1 ≤ x4 ∧ x4 ≤ 9 then (if 1 ≤ x5 ∧ x5 ≤ 90 then (if 0 ≤ x6 ∧ x6 ≤ 9 then (if (g 17 0) = 0 then (if (g 0 0) = 16 then ((-4), g) else (((g 0 0) + 1) - 1, va_up (va_up (va_up (va_up (va_up (va_up (va_up (va_up g 0 (fun _ => (g 0 0) + 1)) 1 (upd (g 1) (ix (g 0 0)) x1)) 2 (upd (g 2) (ix (g 0 0)) x2)) 3 (upd (g 3) (ix (g 0 0)) x3)) 4 (upd (g 4) (ix (g 0 0)) x4)) 5 (upd (g 5) (ix (g 0 0)) x5)) 6 (upd (g 6) (ix (g 0 0)) x6)) 7 (upd (g 7) (ix (g 0 0)) x7))) else ((-3), g)) else ((-2), g)) else ((-2), g)) else ((-2), g)) else ((-2), g)) else ((-2), g)) else (if 1 ≤ x3 ∧ x3 ≤ 9 then (if 1 ≤ x4 ∧ x4 ≤ 9 then (if 1 ≤ x5 ∧ x5 ≤ 90 then (if 0 ≤ x6 ∧ x6 ≤ 9 then (if (g 17 0) = 0 then (if (g 0 0) = 16 then ((-4), g) else (((g 0 0) + 1) - 1, va_up (va_up (va_up (va_up (va_up (va_up (va_up (va_up g 0 (fun _ => (g 0 0) + 1)) 1 (upd (g 1) (ix (g 0 0)) x1)) 2 (upd (g 2) (ix (g 0 0)) x2)) 3 (upd (g 3) (ix (g 0 0)) x3)) 4 (upd (g 4) (ix (g 0 0)) x4)) 5 (upd (g 5) (ix (g 0 0)) x5)) 6 (upd (g 6) (ix (g 0 0)) x6)) 7 (upd (g 7) (ix (g 0 0)) x7))) else ((-3), g)) else ((-2), g)) else ((-2), g)) else ((-2), g)) else ((-2), g))) else ((-2), g)
set_option maxHeartbeats 4000000 in
set_option maxRecDepth 100000 in
theorem tX3_check (l : Launch) (D : va_G) (cI cZ cC : ClassId) (q : Nat → Nat) (o : Nat) (g : Nat → Nat → Int32) (n : Nat) (hn : g 0 0 = nI n) (hnb : n ≤ 16) (x1 x2 x3 x4 x5 x6 x7 : Int32) (h7 : x7 = 0 ∨ x7 = 1) : WrI l yX3_check wsX3_check (rmK 2) D cI cZ cC [.ref o, .int x1, .int x2, .int x3, .int x4, .int x5, .int x6, .int x7] (mW cI cZ q o g) (mW cI cZ q o ((fX3_check g x1 x2 x3 x4 x5 x6 x7).2)) (fun ans => ans = (fX3_check g x1 x2 x3 x4 x5 x6 x7).1) := by
  refine WrI.of (cc := cX3_check) (maxL := 8) (ret := .int) (by decide) rfl (Nat.le_of_ble_eq_true rfl) ?_
  intro p e s m args below meth c Q A ls hx hb hml hts hown hK hP hD hS hA hret hl
  have hl : lv_has ls 8 [(0, .ref o), (1, .int x1), (2, .int x2), (3, .int x3), (4, .int x4), (5, .int x5), (6, .int x6), (7, .int x7)] := hl
  have hinX3 : ∀ w ∈ u_ws RX3 TX3 33, w ∈ wsX3_check := (fun w h => List.mem_cons_of_mem _ (List.mem_append_right _ h))
  refine lv_iload_n hx hb dX3_check_0 rfl (lv_at hl 1 rfl) ?_
  refine lv_iconst (v := 0) hx hb dX3_check_1 (by decide) ?_
  refine lv_iconst (v := 2) hx hb dX3_check_2 (by decide) ?_
  refine x_rdS (As := [.int x1, .int 0, .int 2]) (rest := []) ⟨hx, hb, hml, hown, hts⟩ (tX3_in l D cI cZ cC x1 0 2) (va_cwS 3 hts gX3_check_X3_in rfl rfl rfl (by decide +kernel) ⟨Nat.le_of_ble_eq_true rfl, Nat.le_of_ble_eq_true rfl⟩) hK trivial rfl hl.1 rfl (Nat.le_of_ble_eq_true rfl) dX3_check_3 ⟨Nat.le_of_ble_eq_true rfl, Nat.le_of_ble_eq_true rfl⟩ (fun r_1 er_1 => ?_)
  have er_1 : r_1 = bI (0 ≤ x1 ∧ x1 ≤ 2) := er_1
  subst er_1
  refine lv_if_eq (tgt := 65) hx hb dX3_check_6 (by decide) (fun c_2 => ?_) (fun c_2 => ?_)
  · have c_2 := bI_eq c_2
    refine lv_bipush (v := (-2)) hx hb dX3_check_65 (by decide) ?_
    have es : fX3_check g x1 x2 x3 x4 x5 x6 x7 = ((-2), g) := by rw [fX3_check]; rw [if_neg c_2]
    exact hret 67 _ _ _ _ (by rw [es]) (by rw [es]; exact hP) (by rw [es]; exact hD) hS rfl dX3_check_67
  · have c_2 := bI_ne c_2
    refine lv_iload_n hx hb dX3_check_9 rfl (lv_at hl 1 rfl) ?_
    refine lv_iconst (v := 2) hx hb dX3_check_10 (by decide) ?_
    refine lv_icmp_ne (tgt := 22) hx hb dX3_check_11 (by decide) (fun c_3 => ?_) (fun c_3 => ?_)
    · refine lv_iload_n hx hb dX3_check_22 rfl (lv_at hl 3 rfl) ?_
      refine lv_iconst (v := 1) hx hb dX3_check_23 (by decide) ?_
      refine lv_bipush (v := 9) hx hb dX3_check_24 (by decide) ?_
      refine x_rdS (As := [.int x3, .int 1, .int 9]) (rest := []) ⟨hx, hb, hml, hown, hts⟩ (tX3_in l D cI cZ cC x3 1 9) (va_cwS 3 hts gX3_check_X3_in rfl rfl rfl (by decide +kernel) ⟨Nat.le_of_ble_eq_true rfl, Nat.le_of_ble_eq_true rfl⟩) hK trivial rfl hl.1 rfl (Nat.le_of_ble_eq_true rfl) dX3_check_26 ⟨Nat.le_of_ble_eq_true rfl, Nat.le_of_ble_eq_true rfl⟩ (fun r_4 er_4 => ?_)
      have er_4 : r_4 = bI (1 ≤ x3 ∧ x3 ≤ 9) := er_4
      subst er_4
      refine lv_if_eq (tgt := 65) hx hb dX3_check_29 (by decide) (fun c_5 => ?_) (fun c_5 => ?_)
      · have c_5 := bI_eq c_5
        refine lv_bipush (v := (-2)) hx hb dX3_check_65 (by decide) ?_
        have es : fX3_check g x1 x2 x3 x4 x5 x6 x7 = ((-2), g) := by rw [fX3_check]; rw [if_pos c_2, if_neg c_3, if_neg c_5]
        exact hret 67 _ _ _ _ (by rw [es]) (by rw [es]; exact hP) (by rw [es]; exact hD) hS rfl dX3_check_67
      · have c_5 := bI_ne c_5
        refine lv_iload hx hb dX3_check_32 (lv_at hl 4 rfl) ?_
        refine lv_iconst (v := 1) hx hb dX3_check_34 (by decide) ?_
        refine lv_bipush (v := 9) hx hb dX3_check_35 (by decide) ?_
        refine x_rdS (As := [.int x4, .int 1, .int 9]) (rest := []) ⟨hx, hb, hml, hown, hts⟩ (tX3_in l D cI cZ cC x4 1 9) (va_cwS 3 hts gX3_check_X3_in rfl rfl rfl (by decide +kernel) ⟨Nat.le_of_ble_eq_true rfl, Nat.le_of_ble_eq_true rfl⟩) hK trivial rfl hl.1 rfl (Nat.le_of_ble_eq_true rfl) dX3_check_37 ⟨Nat.le_of_ble_eq_true rfl, Nat.le_of_ble_eq_true rfl⟩ (fun r_6 er_6 => ?_)
        have er_6 : r_6 = bI (1 ≤ x4 ∧ x4 ≤ 9) := er_6
        subst er_6
        refine lv_if_eq (tgt := 65) hx hb dX3_check_40 (by decide) (fun c_7 => ?_) (fun c_7 => ?_)
        · have c_7 := bI_eq c_7
          refine lv_bipush (v := (-2)) hx hb dX3_check_65 (by decide) ?_
          have es : fX3_check g x1 x2 x3 x4 x5 x6 x7 = ((-2), g) := by rw [fX3_check]; rw [if_pos c_2, if_neg c_3, if_pos c_5, if_neg c_7]
          exact hret 67 _ _ _ _ (by rw [es]) (by rw [es]; exact hP) (by rw [es]; exact hD) hS rfl dX3_check_67
        · have c_7 := bI_ne c_7
          refine lv_iload hx hb dX3_check_43 (lv_at hl 5 rfl) ?_
          refine lv_iconst (v := 1) hx hb dX3_check_45 (by decide) ?_
          refine lv_bipush (v := 90) hx hb dX3_check_46 (by decide) ?_
          refine x_rdS (As := [.int x5, .int 1, .int 90]) (rest := []) ⟨hx, hb, hml, hown, hts⟩ (tX3_in l D cI cZ cC x5 1 90) (va_cwS 3 hts gX3_check_X3_in rfl rfl rfl (by decide +kernel) ⟨Nat.le_of_ble_eq_true rfl, Nat.le_of_ble_eq_true rfl⟩) hK trivial rfl hl.1 rfl (Nat.le_of_ble_eq_true rfl) dX3_check_48 ⟨Nat.le_of_ble_eq_true rfl, Nat.le_of_ble_eq_true rfl⟩ (fun r_8 er_8 => ?_)
          have er_8 : r_8 = bI (1 ≤ x5 ∧ x5 ≤ 90) := er_8
          subst er_8
          refine lv_if_eq (tgt := 65) hx hb dX3_check_51 (by decide) (fun c_9 => ?_) (fun c_9 => ?_)
          · have c_9 := bI_eq c_9
            refine lv_bipush (v := (-2)) hx hb dX3_check_65 (by decide) ?_
            have es : fX3_check g x1 x2 x3 x4 x5 x6 x7 = ((-2), g) := by rw [fX3_check]; rw [if_pos c_2, if_neg c_3, if_pos c_5, if_pos c_7, if_neg c_9]
            exact hret 67 _ _ _ _ (by rw [es]) (by rw [es]; exact hP) (by rw [es]; exact hD) hS rfl dX3_check_67
          · have c_9 := bI_ne c_9
            refine lv_iload hx hb dX3_check_54 (lv_at hl 6 rfl) ?_
            refine lv_iconst (v := 0) hx hb dX3_check_56 (by decide) ?_
            refine lv_bipush (v := 9) hx hb dX3_check_57 (by decide) ?_
            refine x_rdS (As := [.int x6, .int 0, .int 9]) (rest := []) ⟨hx, hb, hml, hown, hts⟩ (tX3_in l D cI cZ cC x6 0 9) (va_cwS 3 hts gX3_check_X3_in rfl rfl rfl (by decide +kernel) ⟨Nat.le_of_ble_eq_true rfl, Nat.le_of_ble_eq_true rfl⟩) hK trivial rfl hl.1 rfl (Nat.le_of_ble_eq_true rfl) dX3_check_59 ⟨Nat.le_of_ble_eq_true rfl, Nat.le_of_ble_eq_true rfl⟩ (fun r_10 er_10 => ?_)
            have er_10 : r_10 = bI (0 ≤ x6 ∧ x6 ≤ 9) := er_10
            subst er_10
            refine lv_if_ne (tgt := 68) hx hb dX3_check_62 (by decide) (fun c_11 => ?_) (fun c_11 => ?_)
            · have c_11 := bI_ne c_11
              refine lv_aload_n hx hb dX3_check_68 rfl (lv_at hl 0 rfl) ?_
              refine va_get (D := D) (ci := 3) (v := .int (g 17 0)) (C := RX3) (T := TX3) (N := 33) hx hb hts hinX3 hown hK hP 0 rfl rfl 17 (by decide) (hts (.fieldLink RX3 104 "TroubleCodesModel" "goes" "Z") (mem_at 1 rfl)) (fun _ h9 => h9) rfl dX3_check_69 ?_
              refine lv_if_eq (tgt := 78) hx hb dX3_check_72 (by decide) (fun c_12 => ?_) (fun c_12 => ?_)
              · refine lv_aload_n hx hb dX3_check_78 rfl (lv_at hl 0 rfl) ?_
                refine va_get (D := D) (ci := 3) (v := .int (g 0 0)) (C := RX3) (T := TX3) (N := 33) hx hb hts hinX3 hown hK hP 0 rfl rfl 0 (by decide) (hts (.fieldLink RX3 93 "TroubleCodesModel" "checks" "I") (mem_at 2 rfl)) (fun _ h9 => h9) rfl dX3_check_79 ?_
                refine lv_bipush (v := 16) hx hb dX3_check_82 (by decide) ?_
                refine lv_icmp_ne (tgt := 90) hx hb dX3_check_84 (by decide) (fun c_13 => ?_) (fun c_13 => ?_)
                · have hn15 : n < 16 := Nat.lt_of_le_of_ne hnb (fun h => c_13 (by rw [hn, h]; rfl))
                  have xn : ix (g 0 0) = n := by rw [hn]; exact ix_nI (by omega)
                  refine lv_aload_n hx hb dX3_check_90 rfl (lv_at hl 0 rfl) ?_
                  refine va_get (D := D) (ci := 3) (v := .ref (q 1)) (C := RX3) (T := TX3) (N := 33) hx hb hts hinX3 hown hK hP 0 rfl rfl 1 (by decide) (hts (.fieldLink RX3 7 "TroubleCodesModel" "sort" "[I") (mem_at 3 rfl)) (fun _ h9 => h9) rfl dX3_check_91 ?_
                  refine lv_aload_n hx hb dX3_check_94 rfl (lv_at hl 0 rfl) ?_
                  refine va_get (D := D) (ci := 3) (v := .int (g 0 0)) (C := RX3) (T := TX3) (N := 33) hx hb hts hinX3 hown hK hP 0 rfl rfl 0 (by decide) (hts (.fieldLink RX3 93 "TroubleCodesModel" "checks" "I") (mem_at 2 rfl)) (fun _ h9 => h9) rfl dX3_check_95 ?_
                  refine lv_iload_n hx hb dX3_check_98 rfl (lv_at hl 1 rfl) ?_
                  rw [hn]
                  refine x_iast (k := n) (f := g 1) (x := x1) hx hb hK hP hD hS 1 rfl (by omega) (by decide) dX3_check_99 (fun H locs hP hD hS => ?_)
                  have hP : va_P D vwCl (mW cI cZ q o (va_up g 1 (upd (g 1) n x1))) H := hP
                  have hD : va_D A (mW cI cZ q o (va_up g 1 (upd (g 1) n x1))) := hD
                  refine lv_aload_n hx hb dX3_check_100 rfl (lv_at hl 0 rfl) ?_
                  refine va_get (D := D) (ci := 3) (v := .ref (q 2)) (C := RX3) (T := TX3) (N := 33) hx hb hts hinX3 hown hK hP 0 rfl rfl 2 (by decide) (hts (.fieldLink RX3 13 "TroubleCodesModel" "follows" "[I") (mem_at 4 rfl)) (fun _ h9 => h9) rfl dX3_check_101 ?_
                  refine lv_aload_n hx hb dX3_check_104 rfl (lv_at hl 0 rfl) ?_
                  refine va_get (D := D) (ci := 3) (v := .int (g 0 0)) (C := RX3) (T := TX3) (N := 33) hx hb hts hinX3 hown hK hP 0 rfl rfl 0 (by decide) (hts (.fieldLink RX3 93 "TroubleCodesModel" "checks" "I") (mem_at 2 rfl)) (fun _ h9 => h9) rfl dX3_check_105 ?_
                  refine lv_iload_n hx hb dX3_check_108 rfl (lv_at hl 2 rfl) ?_
                  rw [hn]
                  refine x_iast (k := n) (f := g 2) (x := x2) hx hb hK hP hD hS 2 rfl (by omega) (by decide) dX3_check_109 (fun H locs hP hD hS => ?_)
                  have hP : va_P D vwCl (mW cI cZ q o (va_up (va_up g 1 (upd (g 1) n x1)) 2 (upd (g 2) n x2))) H := hP
                  have hD : va_D A (mW cI cZ q o (va_up (va_up g 1 (upd (g 1) n x1)) 2 (upd (g 2) n x2))) := hD
                  refine lv_aload_n hx hb dX3_check_110 rfl (lv_at hl 0 rfl) ?_
                  refine va_get (D := D) (ci := 3) (v := .ref (q 3)) (C := RX3) (T := TX3) (N := 33) hx hb hts hinX3 hown hK hP 0 rfl rfl 3 (by decide) (hts (.fieldLink RX3 16 "TroubleCodesModel" "badAt" "[I") (mem_at 5 rfl)) (fun _ h9 => h9) rfl dX3_check_111 ?_
                  refine lv_aload_n hx hb dX3_check_114 rfl (lv_at hl 0 rfl) ?_
                  refine va_get (D := D) (ci := 3) (v := .int (g 0 0)) (C := RX3) (T := TX3) (N := 33) hx hb hts hinX3 hown hK hP 0 rfl rfl 0 (by decide) (hts (.fieldLink RX3 93 "TroubleCodesModel" "checks" "I") (mem_at 2 rfl)) (fun _ h9 => h9) rfl dX3_check_115 ?_
                  refine lv_iload_n hx hb dX3_check_118 rfl (lv_at hl 3 rfl) ?_
                  rw [hn]
                  refine x_iast (k := n) (f := g 3) (x := x3) hx hb hK hP hD hS 3 rfl (by omega) (by decide) dX3_check_119 (fun H locs hP hD hS => ?_)
                  have hP : va_P D vwCl (mW cI cZ q o (va_up (va_up (va_up g 1 (upd (g 1) n x1)) 2 (upd (g 2) n x2)) 3 (upd (g 3) n x3))) H := hP
                  have hD : va_D A (mW cI cZ q o (va_up (va_up (va_up g 1 (upd (g 1) n x1)) 2 (upd (g 2) n x2)) 3 (upd (g 3) n x3))) := hD
                  refine lv_aload_n hx hb dX3_check_120 rfl (lv_at hl 0 rfl) ?_
                  refine va_get (D := D) (ci := 3) (v := .ref (q 4)) (C := RX3) (T := TX3) (N := 33) hx hb hts hinX3 hown hK hP 0 rfl rfl 4 (by decide) (hts (.fieldLink RX3 19 "TroubleCodesModel" "goodAt" "[I") (mem_at 6 rfl)) (fun _ h9 => h9) rfl dX3_check_121 ?_
                  refine lv_aload_n hx hb dX3_check_124 rfl (lv_at hl 0 rfl) ?_
                  refine va_get (D := D) (ci := 3) (v := .int (g 0 0)) (C := RX3) (T := TX3) (N := 33) hx hb hts hinX3 hown hK hP 0 rfl rfl 0 (by decide) (hts (.fieldLink RX3 93 "TroubleCodesModel" "checks" "I") (mem_at 2 rfl)) (fun _ h9 => h9) rfl dX3_check_125 ?_
                  refine lv_iload hx hb dX3_check_128 (lv_at hl 4 rfl) ?_
                  rw [hn]
                  refine x_iast (k := n) (f := g 4) (x := x4) hx hb hK hP hD hS 4 rfl (by omega) (by decide) dX3_check_130 (fun H locs hP hD hS => ?_)
                  have hP : va_P D vwCl (mW cI cZ q o (va_up (va_up (va_up (va_up g 1 (upd (g 1) n x1)) 2 (upd (g 2) n x2)) 3 (upd (g 3) n x3)) 4 (upd (g 4) n x4))) H := hP
                  have hD : va_D A (mW cI cZ q o (va_up (va_up (va_up (va_up g 1 (upd (g 1) n x1)) 2 (upd (g 2) n x2)) 3 (upd (g 3) n x3)) 4 (upd (g 4) n x4))) := hD
                  refine lv_aload_n hx hb dX3_check_131 rfl (lv_at hl 0 rfl) ?_
                  refine va_get (D := D) (ci := 3) (v := .ref (q 5)) (C := RX3) (T := TX3) (N := 33) hx hb hts hinX3 hown hK hP 0 rfl rfl 5 (by decide) (hts (.fieldLink RX3 22 "TroubleCodesModel" "ageAt" "[I") (mem_at 7 rfl)) (fun _ h9 => h9) rfl dX3_check_132 ?_
                  refine lv_aload_n hx hb dX3_check_135 rfl (lv_at hl 0 rfl) ?_
                  refine va_get (D := D) (ci := 3) (v := .int (g 0 0)) (C := RX3) (T := TX3) (N := 33) hx hb hts hinX3 hown hK hP 0 rfl rfl 0 (by decide) (hts (.fieldLink RX3 93 "TroubleCodesModel" "checks" "I") (mem_at 2 rfl)) (fun _ h9 => h9) rfl dX3_check_136 ?_
                  refine lv_iload hx hb dX3_check_139 (lv_at hl 5 rfl) ?_
                  rw [hn]
                  refine x_iast (k := n) (f := g 5) (x := x5) hx hb hK hP hD hS 5 rfl (by omega) (by decide) dX3_check_141 (fun H locs hP hD hS => ?_)
                  have hP : va_P D vwCl (mW cI cZ q o (va_up (va_up (va_up (va_up (va_up g 1 (upd (g 1) n x1)) 2 (upd (g 2) n x2)) 3 (upd (g 3) n x3)) 4 (upd (g 4) n x4)) 5 (upd (g 5) n x5))) H := hP
                  have hD : va_D A (mW cI cZ q o (va_up (va_up (va_up (va_up (va_up g 1 (upd (g 1) n x1)) 2 (upd (g 2) n x2)) 3 (upd (g 3) n x3)) 4 (upd (g 4) n x4)) 5 (upd (g 5) n x5))) := hD
                  refine lv_aload_n hx hb dX3_check_142 rfl (lv_at hl 0 rfl) ?_
                  refine va_get (D := D) (ci := 3) (v := .ref (q 6)) (C := RX3) (T := TX3) (N := 33) hx hb hts hinX3 hown hK hP 0 rfl rfl 6 (by decide) (hts (.fieldLink RX3 25 "TroubleCodesModel" "weight" "[I") (mem_at 8 rfl)) (fun _ h9 => h9) rfl dX3_check_143 ?_
                  refine lv_aload_n hx hb dX3_check_146 rfl (lv_at hl 0 rfl) ?_
                  refine va_get (D := D) (ci := 3) (v := .int (g 0 0)) (C := RX3) (T := TX3) (N := 33) hx hb hts hinX3 hown hK hP 0 rfl rfl 0 (by decide) (hts (.fieldLink RX3 93 "TroubleCodesModel" "checks" "I") (mem_at 2 rfl)) (fun _ h9 => h9) rfl dX3_check_147 ?_
                  refine lv_iload hx hb dX3_check_150 (lv_at hl 6 rfl) ?_
                  rw [hn]
                  refine x_iast (k := n) (f := g 6) (x := x6) hx hb hK hP hD hS 6 rfl (by omega) (by decide) dX3_check_152 (fun H locs hP hD hS => ?_)
                  have hP : va_P D vwCl (mW cI cZ q o (va_up (va_up (va_up (va_up (va_up (va_up g 1 (upd (g 1) n x1)) 2 (upd (g 2) n x2)) 3 (upd (g 3) n x3)) 4 (upd (g 4) n x4)) 5 (upd (g 5) n x5)) 6 (upd (g 6) n x6))) H := hP
                  have hD : va_D A (mW cI cZ q o (va_up (va_up (va_up (va_up (va_up (va_up g 1 (upd (g 1) n x1)) 2 (upd (g 2) n x2)) 3 (upd (g 3) n x3)) 4 (upd (g 4) n x4)) 5 (upd (g 5) n x5)) 6 (upd (g 6) n x6))) := hD
                  refine lv_aload_n hx hb dX3_check_153 rfl (lv_at hl 0 rfl) ?_
                  refine va_get (D := D) (ci := 3) (v := .ref (q 7)) (C := RX3) (T := TX3) (N := 33) hx hb hts hinX3 hown hK hP 0 rfl rfl 7 (by decide) (hts (.fieldLink RX3 28 "TroubleCodesModel" "hasLamp" "[Z") (mem_at 9 rfl)) (fun _ h9 => h9) rfl dX3_check_154 ?_
                  refine lv_aload_n hx hb dX3_check_157 rfl (lv_at hl 0 rfl) ?_
                  refine va_get (D := D) (ci := 3) (v := .int (g 0 0)) (C := RX3) (T := TX3) (N := 33) hx hb hts hinX3 hown hK hP 0 rfl rfl 0 (by decide) (hts (.fieldLink RX3 93 "TroubleCodesModel" "checks" "I") (mem_at 2 rfl)) (fun _ h9 => h9) rfl dX3_check_158 ?_
                  refine lv_iload hx hb dX3_check_161 (lv_at hl 7 rfl) ?_
                  rw [hn]
                  refine x_zast (k := n) (f := g 7) (x := x7) hx hb hK hP hD hS 7 rfl h7 (by omega) (by decide) dX3_check_163 (fun H locs hP hD hS => ?_)
                  have hP : va_P D vwCl (mW cI cZ q o (va_up (va_up (va_up (va_up (va_up (va_up (va_up g 1 (upd (g 1) n x1)) 2 (upd (g 2) n x2)) 3 (upd (g 3) n x3)) 4 (upd (g 4) n x4)) 5 (upd (g 5) n x5)) 6 (upd (g 6) n x6)) 7 (upd (g 7) n x7))) H := hP
                  have hD : va_D A (mW cI cZ q o (va_up (va_up (va_up (va_up (va_up (va_up (va_up g 1 (upd (g 1) n x1)) 2 (upd (g 2) n x2)) 3 (upd (g 3) n x3)) 4 (upd (g 4) n x4)) 5 (upd (g 5) n x5)) 6 (upd (g 6) n x6)) 7 (upd (g 7) n x7))) := hD
                  refine lv_aload_n hx hb dX3_check_164 rfl (lv_at hl 0 rfl) ?_
                  refine lv_dup hx hb dX3_check_165 rfl ?_
                  refine va_get (D := D) (ci := 3) (v := .int (g 0 0)) (C := RX3) (T := TX3) (N := 33) hx hb hts hinX3 hown hK hP 0 rfl rfl 0 (by decide) (hts (.fieldLink RX3 93 "TroubleCodesModel" "checks" "I") (mem_at 2 rfl)) (fun _ h9 => h9) rfl dX3_check_166 ?_
                  refine lv_iconst (v := 1) hx hb dX3_check_169 (by decide) ?_
                  refine lv_iadd hx hb dX3_check_170 ?_
                  refine va_put (D := D) (ci := 3) (v := .int ((g 0 0) + 1)) (ty := .int) (C := RX3) (T := TX3) (N := 33) hx hb hts hinX3 tyX3 tyX3_ok nmX3 hown hK hP hD hS 0 rfl rfl 0 (by decide) (hts (.fieldLink RX3 93 "TroubleCodesModel" "checks" "I") (mem_at 2 rfl)) (fun _ h9 => h9) rfl (by decide +kernel) rfl rfl (Nat.le_of_ble_eq_true rfl) dX3_check_171 (fun H locs hP hD hS => ?_)
                  have hP : va_P D vwCl (mW cI cZ q o (va_up (va_up (va_up (va_up (va_up (va_up (va_up (va_up g 0 (fun _ => (g 0 0) + 1)) 1 (upd (g 1) n x1)) 2 (upd (g 2) n x2)) 3 (upd (g 3) n x3)) 4 (upd (g 4) n x4)) 5 (upd (g 5) n x5)) 6 (upd (g 6) n x6)) 7 (upd (g 7) n x7))) H := hP
                  have hD : va_D A (mW cI cZ q o (va_up (va_up (va_up (va_up (va_up (va_up (va_up (va_up g 0 (fun _ => (g 0 0) + 1)) 1 (upd (g 1) n x1)) 2 (upd (g 2) n x2)) 3 (upd (g 3) n x3)) 4 (upd (g 4) n x4)) 5 (upd (g 5) n x5)) 6 (upd (g 6) n x6)) 7 (upd (g 7) n x7))) := hD
                  refine lv_aload_n hx hb dX3_check_174 rfl (lv_at hl 0 rfl) ?_
                  refine va_get (D := D) (ci := 3) (v := .int ((g 0 0) + 1)) (C := RX3) (T := TX3) (N := 33) hx hb hts hinX3 hown hK hP 0 rfl rfl 0 (by decide) (hts (.fieldLink RX3 93 "TroubleCodesModel" "checks" "I") (mem_at 2 rfl)) (fun _ h9 => h9) rfl dX3_check_175 ?_
                  refine lv_iconst (v := 1) hx hb dX3_check_178 (by decide) ?_
                  refine lv_isub hx hb dX3_check_179 ?_
                  have es : fX3_check g x1 x2 x3 x4 x5 x6 x7 = (((g 0 0) + 1) - 1, va_up (va_up (va_up (va_up (va_up (va_up (va_up (va_up g 0 (fun _ => (g 0 0) + 1)) 1 (upd (g 1) n x1)) 2 (upd (g 2) n x2)) 3 (upd (g 3) n x3)) 4 (upd (g 4) n x4)) 5 (upd (g 5) n x5)) 6 (upd (g 6) n x6)) 7 (upd (g 7) n x7)) := by rw [fX3_check]; simp only [xn]; rw [if_pos c_2, if_neg c_3, if_pos c_5, if_pos c_7, if_pos c_9, if_pos c_11, if_pos c_12, if_neg c_13]
                  exact hret 180 _ _ _ _ (by rw [es]) (by rw [es]; exact hP) (by rw [es]; exact hD) hS rfl dX3_check_180
                · refine lv_bipush (v := (-4)) hx hb dX3_check_87 (by decide) ?_
                  have es : fX3_check g x1 x2 x3 x4 x5 x6 x7 = ((-4), g) := by rw [fX3_check]; rw [if_pos c_2, if_neg c_3, if_pos c_5, if_pos c_7, if_pos c_9, if_pos c_11, if_pos c_12, if_pos c_13]
                  exact hret 89 _ _ _ _ (by rw [es]) (by rw [es]; exact hP) (by rw [es]; exact hD) hS rfl dX3_check_89
              · refine lv_bipush (v := (-3)) hx hb dX3_check_75 (by decide) ?_
                have es : fX3_check g x1 x2 x3 x4 x5 x6 x7 = ((-3), g) := by rw [fX3_check]; rw [if_pos c_2, if_neg c_3, if_pos c_5, if_pos c_7, if_pos c_9, if_pos c_11, if_neg c_12]
                exact hret 77 _ _ _ _ (by rw [es]) (by rw [es]; exact hP) (by rw [es]; exact hD) hS rfl dX3_check_77
            · have c_11 := bI_eq c_11
              refine lv_bipush (v := (-2)) hx hb dX3_check_65 (by decide) ?_
              have es : fX3_check g x1 x2 x3 x4 x5 x6 x7 = ((-2), g) := by rw [fX3_check]; rw [if_pos c_2, if_neg c_3, if_pos c_5, if_pos c_7, if_pos c_9, if_neg c_11]
              exact hret 67 _ _ _ _ (by rw [es]) (by rw [es]; exact hP) (by rw [es]; exact hD) hS rfl dX3_check_67
    · refine lv_aload_n hx hb dX3_check_14 rfl (lv_at hl 0 rfl) ?_
      refine lv_iload_n hx hb dX3_check_15 rfl (lv_at hl 2 rfl) ?_
      refine x_rdV (As := [.int x2]) (rest := []) ⟨hx, hb, hml, hown, hts⟩ (tX3_isCheck l D cI cZ cC q o g x2) (cwV 1 hts gX3_check_X3_isCheck rfl rfl rfl (by decide +kernel) ⟨Nat.le_of_ble_eq_true rfl, Nat.le_of_ble_eq_true rfl⟩) hK (x_recv (ci := 3) hK hP rfl (q0 := 0) rfl) hP rfl hl.1 rfl (Nat.le_of_ble_eq_true rfl) dX3_check_16 ⟨Nat.le_of_ble_eq_true rfl, Nat.le_of_ble_eq_true rfl⟩ (fun r_14 er_14 => ?_)
      have er_14 : r_14 = bI (0 ≤ x2 ∧ x2 ≤ (g 0 0 - 1)) := er_14
      subst er_14
      refine lv_if_eq (tgt := 65) hx hb dX3_check_19 (by decide) (fun c_15 => ?_) (fun c_15 => ?_)
      · have c_15 := bI_eq c_15
        refine lv_bipush (v := (-2)) hx hb dX3_check_65 (by decide) ?_
        have es : fX3_check g x1 x2 x3 x4 x5 x6 x7 = ((-2), g) := by rw [fX3_check]; rw [if_pos c_2, if_pos c_3, if_neg c_15]
        exact hret 67 _ _ _ _ (by rw [es]) (by rw [es]; exact hP) (by rw [es]; exact hD) hS rfl dX3_check_67
      · have c_15 := bI_ne c_15
        refine lv_iload_n hx hb dX3_check_22 rfl (lv_at hl 3 rfl) ?_
        refine lv_iconst (v := 1) hx hb dX3_check_23 (by decide) ?_
        refine lv_bipush (v := 9) hx hb dX3_check_24 (by decide) ?_
        refine x_rdS (As := [.int x3, .int 1, .int 9]) (rest := []) ⟨hx, hb, hml, hown, hts⟩ (tX3_in l D cI cZ cC x3 1 9) (va_cwS 3 hts gX3_check_X3_in rfl rfl rfl (by decide +kernel) ⟨Nat.le_of_ble_eq_true rfl, Nat.le_of_ble_eq_true rfl⟩) hK trivial rfl hl.1 rfl (Nat.le_of_ble_eq_true rfl) dX3_check_26 ⟨Nat.le_of_ble_eq_true rfl, Nat.le_of_ble_eq_true rfl⟩ (fun r_16 er_16 => ?_)
        have er_16 : r_16 = bI (1 ≤ x3 ∧ x3 ≤ 9) := er_16
        subst er_16
        refine lv_if_eq (tgt := 65) hx hb dX3_check_29 (by decide) (fun c_17 => ?_) (fun c_17 => ?_)
        · have c_17 := bI_eq c_17
          refine lv_bipush (v := (-2)) hx hb dX3_check_65 (by decide) ?_
          have es : fX3_check g x1 x2 x3 x4 x5 x6 x7 = ((-2), g) := by rw [fX3_check]; rw [if_pos c_2, if_pos c_3, if_pos c_15, if_neg c_17]
          exact hret 67 _ _ _ _ (by rw [es]) (by rw [es]; exact hP) (by rw [es]; exact hD) hS rfl dX3_check_67
        · have c_17 := bI_ne c_17
          refine lv_iload hx hb dX3_check_32 (lv_at hl 4 rfl) ?_
          refine lv_iconst (v := 1) hx hb dX3_check_34 (by decide) ?_
          refine lv_bipush (v := 9) hx hb dX3_check_35 (by decide) ?_
          refine x_rdS (As := [.int x4, .int 1, .int 9]) (rest := []) ⟨hx, hb, hml, hown, hts⟩ (tX3_in l D cI cZ cC x4 1 9) (va_cwS 3 hts gX3_check_X3_in rfl rfl rfl (by decide +kernel) ⟨Nat.le_of_ble_eq_true rfl, Nat.le_of_ble_eq_true rfl⟩) hK trivial rfl hl.1 rfl (Nat.le_of_ble_eq_true rfl) dX3_check_37 ⟨Nat.le_of_ble_eq_true rfl, Nat.le_of_ble_eq_true rfl⟩ (fun r_18 er_18 => ?_)
          have er_18 : r_18 = bI (1 ≤ x4 ∧ x4 ≤ 9) := er_18
          subst er_18
          refine lv_if_eq (tgt := 65) hx hb dX3_check_40 (by decide) (fun c_19 => ?_) (fun c_19 => ?_)
          · have c_19 := bI_eq c_19
            refine lv_bipush (v := (-2)) hx hb dX3_check_65 (by decide) ?_
            have es : fX3_check g x1 x2 x3 x4 x5 x6 x7 = ((-2), g) := by rw [fX3_check]; rw [if_pos c_2, if_pos c_3, if_pos c_15, if_pos c_17, if_neg c_19]
            exact hret 67 _ _ _ _ (by rw [es]) (by rw [es]; exact hP) (by rw [es]; exact hD) hS rfl dX3_check_67
          · have c_19 := bI_ne c_19
            refine lv_iload hx hb dX3_check_43 (lv_at hl 5 rfl) ?_
            refine lv_iconst (v := 1) hx hb dX3_check_45 (by decide) ?_
            refine lv_bipush (v := 90) hx hb dX3_check_46 (by decide) ?_
            refine x_rdS (As := [.int x5, .int 1, .int 90]) (rest := []) ⟨hx, hb, hml, hown, hts⟩ (tX3_in l D cI cZ cC x5 1 90) (va_cwS 3 hts gX3_check_X3_in rfl rfl rfl (by decide +kernel) ⟨Nat.le_of_ble_eq_true rfl, Nat.le_of_ble_eq_true rfl⟩) hK trivial rfl hl.1 rfl (Nat.le_of_ble_eq_true rfl) dX3_check_48 ⟨Nat.le_of_ble_eq_true rfl, Nat.le_of_ble_eq_true rfl⟩ (fun r_20 er_20 => ?_)
            have er_20 : r_20 = bI (1 ≤ x5 ∧ x5 ≤ 90) := er_20
            subst er_20
            refine lv_if_eq (tgt := 65) hx hb dX3_check_51 (by decide) (fun c_21 => ?_) (fun c_21 => ?_)
            · have c_21 := bI_eq c_21
              refine lv_bipush (v := (-2)) hx hb dX3_check_65 (by decide) ?_
              have es : fX3_check g x1 x2 x3 x4 x5 x6 x7 = ((-2), g) := by rw [fX3_check]; rw [if_pos c_2, if_pos c_3, if_pos c_15, if_pos c_17, if_pos c_19, if_neg c_21]
              exact hret 67 _ _ _ _ (by rw [es]) (by rw [es]; exact hP) (by rw [es]; exact hD) hS rfl dX3_check_67
            · have c_21 := bI_ne c_21
              refine lv_iload hx hb dX3_check_54 (lv_at hl 6 rfl) ?_
              refine lv_iconst (v := 0) hx hb dX3_check_56 (by decide) ?_
              refine lv_bipush (v := 9) hx hb dX3_check_57 (by decide) ?_
              refine x_rdS (As := [.int x6, .int 0, .int 9]) (rest := []) ⟨hx, hb, hml, hown, hts⟩ (tX3_in l D cI cZ cC x6 0 9) (va_cwS 3 hts gX3_check_X3_in rfl rfl rfl (by decide +kernel) ⟨Nat.le_of_ble_eq_true rfl, Nat.le_of_ble_eq_true rfl⟩) hK trivial rfl hl.1 rfl (Nat.le_of_ble_eq_true rfl) dX3_check_59 ⟨Nat.le_of_ble_eq_true rfl, Nat.le_of_ble_eq_true rfl⟩ (fun r_22 er_22 => ?_)
              have er_22 : r_22 = bI (0 ≤ x6 ∧ x6 ≤ 9) := er_22
              subst er_22
              refine lv_if_ne (tgt := 68) hx hb dX3_check_62 (by decide) (fun c_23 => ?_) (fun c_23 => ?_)
              · have c_23 := bI_ne c_23
                refine lv_aload_n hx hb dX3_check_68 rfl (lv_at hl 0 rfl) ?_
                refine va_get (D := D) (ci := 3) (v := .int (g 17 0)) (C := RX3) (T := TX3) (N := 33) hx hb hts hinX3 hown hK hP 0 rfl rfl 17 (by decide) (hts (.fieldLink RX3 104 "TroubleCodesModel" "goes" "Z") (mem_at 1 rfl)) (fun _ h9 => h9) rfl dX3_check_69 ?_
                refine lv_if_eq (tgt := 78) hx hb dX3_check_72 (by decide) (fun c_24 => ?_) (fun c_24 => ?_)
                · refine lv_aload_n hx hb dX3_check_78 rfl (lv_at hl 0 rfl) ?_
                  refine va_get (D := D) (ci := 3) (v := .int (g 0 0)) (C := RX3) (T := TX3) (N := 33) hx hb hts hinX3 hown hK hP 0 rfl rfl 0 (by decide) (hts (.fieldLink RX3 93 "TroubleCodesModel" "checks" "I") (mem_at 2 rfl)) (fun _ h9 => h9) rfl dX3_check_79 ?_
                  refine lv_bipush (v := 16) hx hb dX3_check_82 (by decide) ?_
                  refine lv_icmp_ne (tgt := 90) hx hb dX3_check_84 (by decide) (fun c_25 => ?_) (fun c_25 => ?_)
                  · have hn15 : n < 16 := Nat.lt_of_le_of_ne hnb (fun h => c_25 (by rw [hn, h]; rfl))
                    have xn : ix (g 0 0) = n := by rw [hn]; exact ix_nI (by omega)
                    refine lv_aload_n hx hb dX3_check_90 rfl (lv_at hl 0 rfl) ?_
                    refine va_get (D := D) (ci := 3) (v := .ref (q 1)) (C := RX3) (T := TX3) (N := 33) hx hb hts hinX3 hown hK hP 0 rfl rfl 1 (by decide) (hts (.fieldLink RX3 7 "TroubleCodesModel" "sort" "[I") (mem_at 3 rfl)) (fun _ h9 => h9) rfl dX3_check_91 ?_
                    refine lv_aload_n hx hb dX3_check_94 rfl (lv_at hl 0 rfl) ?_
                    refine va_get (D := D) (ci := 3) (v := .int (g 0 0)) (C := RX3) (T := TX3) (N := 33) hx hb hts hinX3 hown hK hP 0 rfl rfl 0 (by decide) (hts (.fieldLink RX3 93 "TroubleCodesModel" "checks" "I") (mem_at 2 rfl)) (fun _ h9 => h9) rfl dX3_check_95 ?_
                    refine lv_iload_n hx hb dX3_check_98 rfl (lv_at hl 1 rfl) ?_
                    rw [hn]
                    refine x_iast (k := n) (f := g 1) (x := x1) hx hb hK hP hD hS 1 rfl (by omega) (by decide) dX3_check_99 (fun H locs hP hD hS => ?_)
                    have hP : va_P D vwCl (mW cI cZ q o (va_up g 1 (upd (g 1) n x1))) H := hP
                    have hD : va_D A (mW cI cZ q o (va_up g 1 (upd (g 1) n x1))) := hD
                    refine lv_aload_n hx hb dX3_check_100 rfl (lv_at hl 0 rfl) ?_
                    refine va_get (D := D) (ci := 3) (v := .ref (q 2)) (C := RX3) (T := TX3) (N := 33) hx hb hts hinX3 hown hK hP 0 rfl rfl 2 (by decide) (hts (.fieldLink RX3 13 "TroubleCodesModel" "follows" "[I") (mem_at 4 rfl)) (fun _ h9 => h9) rfl dX3_check_101 ?_
                    refine lv_aload_n hx hb dX3_check_104 rfl (lv_at hl 0 rfl) ?_
                    refine va_get (D := D) (ci := 3) (v := .int (g 0 0)) (C := RX3) (T := TX3) (N := 33) hx hb hts hinX3 hown hK hP 0 rfl rfl 0 (by decide) (hts (.fieldLink RX3 93 "TroubleCodesModel" "checks" "I") (mem_at 2 rfl)) (fun _ h9 => h9) rfl dX3_check_105 ?_
                    refine lv_iload_n hx hb dX3_check_108 rfl (lv_at hl 2 rfl) ?_
                    rw [hn]
                    refine x_iast (k := n) (f := g 2) (x := x2) hx hb hK hP hD hS 2 rfl (by omega) (by decide) dX3_check_109 (fun H locs hP hD hS => ?_)
                    have hP : va_P D vwCl (mW cI cZ q o (va_up (va_up g 1 (upd (g 1) n x1)) 2 (upd (g 2) n x2))) H := hP
                    have hD : va_D A (mW cI cZ q o (va_up (va_up g 1 (upd (g 1) n x1)) 2 (upd (g 2) n x2))) := hD
                    refine lv_aload_n hx hb dX3_check_110 rfl (lv_at hl 0 rfl) ?_
                    refine va_get (D := D) (ci := 3) (v := .ref (q 3)) (C := RX3) (T := TX3) (N := 33) hx hb hts hinX3 hown hK hP 0 rfl rfl 3 (by decide) (hts (.fieldLink RX3 16 "TroubleCodesModel" "badAt" "[I") (mem_at 5 rfl)) (fun _ h9 => h9) rfl dX3_check_111 ?_
                    refine lv_aload_n hx hb dX3_check_114 rfl (lv_at hl 0 rfl) ?_
                    refine va_get (D := D) (ci := 3) (v := .int (g 0 0)) (C := RX3) (T := TX3) (N := 33) hx hb hts hinX3 hown hK hP 0 rfl rfl 0 (by decide) (hts (.fieldLink RX3 93 "TroubleCodesModel" "checks" "I") (mem_at 2 rfl)) (fun _ h9 => h9) rfl dX3_check_115 ?_
                    refine lv_iload_n hx hb dX3_check_118 rfl (lv_at hl 3 rfl) ?_
                    rw [hn]
                    refine x_iast (k := n) (f := g 3) (x := x3) hx hb hK hP hD hS 3 rfl (by omega) (by decide) dX3_check_119 (fun H locs hP hD hS => ?_)
                    have hP : va_P D vwCl (mW cI cZ q o (va_up (va_up (va_up g 1 (upd (g 1) n x1)) 2 (upd (g 2) n x2)) 3 (upd (g 3) n x3))) H := hP
                    have hD : va_D A (mW cI cZ q o (va_up (va_up (va_up g 1 (upd (g 1) n x1)) 2 (upd (g 2) n x2)) 3 (upd (g 3) n x3))) := hD
                    refine lv_aload_n hx hb dX3_check_120 rfl (lv_at hl 0 rfl) ?_
                    refine va_get (D := D) (ci := 3) (v := .ref (q 4)) (C := RX3) (T := TX3) (N := 33) hx hb hts hinX3 hown hK hP 0 rfl rfl 4 (by decide) (hts (.fieldLink RX3 19 "TroubleCodesModel" "goodAt" "[I") (mem_at 6 rfl)) (fun _ h9 => h9) rfl dX3_check_121 ?_
                    refine lv_aload_n hx hb dX3_check_124 rfl (lv_at hl 0 rfl) ?_
                    refine va_get (D := D) (ci := 3) (v := .int (g 0 0)) (C := RX3) (T := TX3) (N := 33) hx hb hts hinX3 hown hK hP 0 rfl rfl 0 (by decide) (hts (.fieldLink RX3 93 "TroubleCodesModel" "checks" "I") (mem_at 2 rfl)) (fun _ h9 => h9) rfl dX3_check_125 ?_
                    refine lv_iload hx hb dX3_check_128 (lv_at hl 4 rfl) ?_
                    rw [hn]
                    refine x_iast (k := n) (f := g 4) (x := x4) hx hb hK hP hD hS 4 rfl (by omega) (by decide) dX3_check_130 (fun H locs hP hD hS => ?_)
                    have hP : va_P D vwCl (mW cI cZ q o (va_up (va_up (va_up (va_up g 1 (upd (g 1) n x1)) 2 (upd (g 2) n x2)) 3 (upd (g 3) n x3)) 4 (upd (g 4) n x4))) H := hP
                    have hD : va_D A (mW cI cZ q o (va_up (va_up (va_up (va_up g 1 (upd (g 1) n x1)) 2 (upd (g 2) n x2)) 3 (upd (g 3) n x3)) 4 (upd (g 4) n x4))) := hD
                    refine lv_aload_n hx hb dX3_check_131 rfl (lv_at hl 0 rfl) ?_
                    refine va_get (D := D) (ci := 3) (v := .ref (q 5)) (C := RX3) (T := TX3) (N := 33) hx hb hts hinX3 hown hK hP 0 rfl rfl 5 (by decide) (hts (.fieldLink RX3 22 "TroubleCodesModel" "ageAt" "[I") (mem_at 7 rfl)) (fun _ h9 => h9) rfl dX3_check_132 ?_
                    refine lv_aload_n hx hb dX3_check_135 rfl (lv_at hl 0 rfl) ?_
                    refine va_get (D := D) (ci := 3) (v := .int (g 0 0)) (C := RX3) (T := TX3) (N := 33) hx hb hts hinX3 hown hK hP 0 rfl rfl 0 (by decide) (hts (.fieldLink RX3 93 "TroubleCodesModel" "checks" "I") (mem_at 2 rfl)) (fun _ h9 => h9) rfl dX3_check_136 ?_
                    refine lv_iload hx hb dX3_check_139 (lv_at hl 5 rfl) ?_
                    rw [hn]
                    refine x_iast (k := n) (f := g 5) (x := x5) hx hb hK hP hD hS 5 rfl (by omega) (by decide) dX3_check_141 (fun H locs hP hD hS => ?_)
                    have hP : va_P D vwCl (mW cI cZ q o (va_up (va_up (va_up (va_up (va_up g 1 (upd (g 1) n x1)) 2 (upd (g 2) n x2)) 3 (upd (g 3) n x3)) 4 (upd (g 4) n x4)) 5 (upd (g 5) n x5))) H := hP
                    have hD : va_D A (mW cI cZ q o (va_up (va_up (va_up (va_up (va_up g 1 (upd (g 1) n x1)) 2 (upd (g 2) n x2)) 3 (upd (g 3) n x3)) 4 (upd (g 4) n x4)) 5 (upd (g 5) n x5))) := hD
                    refine lv_aload_n hx hb dX3_check_142 rfl (lv_at hl 0 rfl) ?_
                    refine va_get (D := D) (ci := 3) (v := .ref (q 6)) (C := RX3) (T := TX3) (N := 33) hx hb hts hinX3 hown hK hP 0 rfl rfl 6 (by decide) (hts (.fieldLink RX3 25 "TroubleCodesModel" "weight" "[I") (mem_at 8 rfl)) (fun _ h9 => h9) rfl dX3_check_143 ?_
                    refine lv_aload_n hx hb dX3_check_146 rfl (lv_at hl 0 rfl) ?_
                    refine va_get (D := D) (ci := 3) (v := .int (g 0 0)) (C := RX3) (T := TX3) (N := 33) hx hb hts hinX3 hown hK hP 0 rfl rfl 0 (by decide) (hts (.fieldLink RX3 93 "TroubleCodesModel" "checks" "I") (mem_at 2 rfl)) (fun _ h9 => h9) rfl dX3_check_147 ?_
                    refine lv_iload hx hb dX3_check_150 (lv_at hl 6 rfl) ?_
                    rw [hn]
                    refine x_iast (k := n) (f := g 6) (x := x6) hx hb hK hP hD hS 6 rfl (by omega) (by decide) dX3_check_152 (fun H locs hP hD hS => ?_)
                    have hP : va_P D vwCl (mW cI cZ q o (va_up (va_up (va_up (va_up (va_up (va_up g 1 (upd (g 1) n x1)) 2 (upd (g 2) n x2)) 3 (upd (g 3) n x3)) 4 (upd (g 4) n x4)) 5 (upd (g 5) n x5)) 6 (upd (g 6) n x6))) H := hP
                    have hD : va_D A (mW cI cZ q o (va_up (va_up (va_up (va_up (va_up (va_up g 1 (upd (g 1) n x1)) 2 (upd (g 2) n x2)) 3 (upd (g 3) n x3)) 4 (upd (g 4) n x4)) 5 (upd (g 5) n x5)) 6 (upd (g 6) n x6))) := hD
                    refine lv_aload_n hx hb dX3_check_153 rfl (lv_at hl 0 rfl) ?_
                    refine va_get (D := D) (ci := 3) (v := .ref (q 7)) (C := RX3) (T := TX3) (N := 33) hx hb hts hinX3 hown hK hP 0 rfl rfl 7 (by decide) (hts (.fieldLink RX3 28 "TroubleCodesModel" "hasLamp" "[Z") (mem_at 9 rfl)) (fun _ h9 => h9) rfl dX3_check_154 ?_
                    refine lv_aload_n hx hb dX3_check_157 rfl (lv_at hl 0 rfl) ?_
                    refine va_get (D := D) (ci := 3) (v := .int (g 0 0)) (C := RX3) (T := TX3) (N := 33) hx hb hts hinX3 hown hK hP 0 rfl rfl 0 (by decide) (hts (.fieldLink RX3 93 "TroubleCodesModel" "checks" "I") (mem_at 2 rfl)) (fun _ h9 => h9) rfl dX3_check_158 ?_
                    refine lv_iload hx hb dX3_check_161 (lv_at hl 7 rfl) ?_
                    rw [hn]
                    refine x_zast (k := n) (f := g 7) (x := x7) hx hb hK hP hD hS 7 rfl h7 (by omega) (by decide) dX3_check_163 (fun H locs hP hD hS => ?_)
                    have hP : va_P D vwCl (mW cI cZ q o (va_up (va_up (va_up (va_up (va_up (va_up (va_up g 1 (upd (g 1) n x1)) 2 (upd (g 2) n x2)) 3 (upd (g 3) n x3)) 4 (upd (g 4) n x4)) 5 (upd (g 5) n x5)) 6 (upd (g 6) n x6)) 7 (upd (g 7) n x7))) H := hP
                    have hD : va_D A (mW cI cZ q o (va_up (va_up (va_up (va_up (va_up (va_up (va_up g 1 (upd (g 1) n x1)) 2 (upd (g 2) n x2)) 3 (upd (g 3) n x3)) 4 (upd (g 4) n x4)) 5 (upd (g 5) n x5)) 6 (upd (g 6) n x6)) 7 (upd (g 7) n x7))) := hD
                    refine lv_aload_n hx hb dX3_check_164 rfl (lv_at hl 0 rfl) ?_
                    refine lv_dup hx hb dX3_check_165 rfl ?_
                    refine va_get (D := D) (ci := 3) (v := .int (g 0 0)) (C := RX3) (T := TX3) (N := 33) hx hb hts hinX3 hown hK hP 0 rfl rfl 0 (by decide) (hts (.fieldLink RX3 93 "TroubleCodesModel" "checks" "I") (mem_at 2 rfl)) (fun _ h9 => h9) rfl dX3_check_166 ?_
                    refine lv_iconst (v := 1) hx hb dX3_check_169 (by decide) ?_
                    refine lv_iadd hx hb dX3_check_170 ?_
                    refine va_put (D := D) (ci := 3) (v := .int ((g 0 0) + 1)) (ty := .int) (C := RX3) (T := TX3) (N := 33) hx hb hts hinX3 tyX3 tyX3_ok nmX3 hown hK hP hD hS 0 rfl rfl 0 (by decide) (hts (.fieldLink RX3 93 "TroubleCodesModel" "checks" "I") (mem_at 2 rfl)) (fun _ h9 => h9) rfl (by decide +kernel) rfl rfl (Nat.le_of_ble_eq_true rfl) dX3_check_171 (fun H locs hP hD hS => ?_)
                    have hP : va_P D vwCl (mW cI cZ q o (va_up (va_up (va_up (va_up (va_up (va_up (va_up (va_up g 0 (fun _ => (g 0 0) + 1)) 1 (upd (g 1) n x1)) 2 (upd (g 2) n x2)) 3 (upd (g 3) n x3)) 4 (upd (g 4) n x4)) 5 (upd (g 5) n x5)) 6 (upd (g 6) n x6)) 7 (upd (g 7) n x7))) H := hP
                    have hD : va_D A (mW cI cZ q o (va_up (va_up (va_up (va_up (va_up (va_up (va_up (va_up g 0 (fun _ => (g 0 0) + 1)) 1 (upd (g 1) n x1)) 2 (upd (g 2) n x2)) 3 (upd (g 3) n x3)) 4 (upd (g 4) n x4)) 5 (upd (g 5) n x5)) 6 (upd (g 6) n x6)) 7 (upd (g 7) n x7))) := hD
                    refine lv_aload_n hx hb dX3_check_174 rfl (lv_at hl 0 rfl) ?_
                    refine va_get (D := D) (ci := 3) (v := .int ((g 0 0) + 1)) (C := RX3) (T := TX3) (N := 33) hx hb hts hinX3 hown hK hP 0 rfl rfl 0 (by decide) (hts (.fieldLink RX3 93 "TroubleCodesModel" "checks" "I") (mem_at 2 rfl)) (fun _ h9 => h9) rfl dX3_check_175 ?_
                    refine lv_iconst (v := 1) hx hb dX3_check_178 (by decide) ?_
                    refine lv_isub hx hb dX3_check_179 ?_
                    have es : fX3_check g x1 x2 x3 x4 x5 x6 x7 = (((g 0 0) + 1) - 1, va_up (va_up (va_up (va_up (va_up (va_up (va_up (va_up g 0 (fun _ => (g 0 0) + 1)) 1 (upd (g 1) n x1)) 2 (upd (g 2) n x2)) 3 (upd (g 3) n x3)) 4 (upd (g 4) n x4)) 5 (upd (g 5) n x5)) 6 (upd (g 6) n x6)) 7 (upd (g 7) n x7)) := by rw [fX3_check]; simp only [xn]; rw [if_pos c_2, if_pos c_3, if_pos c_15, if_pos c_17, if_pos c_19, if_pos c_21, if_pos c_23, if_pos c_24, if_neg c_25]
                    exact hret 180 _ _ _ _ (by rw [es]) (by rw [es]; exact hP) (by rw [es]; exact hD) hS rfl dX3_check_180
                  · refine lv_bipush (v := (-4)) hx hb dX3_check_87 (by decide) ?_
                    have es : fX3_check g x1 x2 x3 x4 x5 x6 x7 = ((-4), g) := by rw [fX3_check]; rw [if_pos c_2, if_pos c_3, if_pos c_15, if_pos c_17, if_pos c_19, if_pos c_21, if_pos c_23, if_pos c_24, if_pos c_25]
                    exact hret 89 _ _ _ _ (by rw [es]) (by rw [es]; exact hP) (by rw [es]; exact hD) hS rfl dX3_check_89
                · refine lv_bipush (v := (-3)) hx hb dX3_check_75 (by decide) ?_
                  have es : fX3_check g x1 x2 x3 x4 x5 x6 x7 = ((-3), g) := by rw [fX3_check]; rw [if_pos c_2, if_pos c_3, if_pos c_15, if_pos c_17, if_pos c_19, if_pos c_21, if_pos c_23, if_neg c_24]
                  exact hret 77 _ _ _ _ (by rw [es]) (by rw [es]; exact hP) (by rw [es]; exact hD) hS rfl dX3_check_77
              · have c_23 := bI_eq c_23
                refine lv_bipush (v := (-2)) hx hb dX3_check_65 (by decide) ?_
                have es : fX3_check g x1 x2 x3 x4 x5 x6 x7 = ((-2), g) := by rw [fX3_check]; rw [if_pos c_2, if_pos c_3, if_pos c_15, if_pos c_17, if_pos c_19, if_pos c_21, if_neg c_23]
                exact hret 67 _ _ _ _ (by rw [es]) (by rw [es]; exact hP) (by rw [es]; exact hD) hS rfl dX3_check_67

def fX3_cause (g : Nat → Nat → Int32) (x y : Int32) : Int32 × (Nat → Nat → Int32) := if 1 ≤ x ∧ x ≤ ((1 <<< ((g 0 0) &&& 31)) - 1) then (if 1 ≤ y ∧ y ≤ 1000 then (if (g 26 0) = 10 then ((-4), g) else (((g 26 0) + 1) - 1, va_up (va_up (va_up g 26 (fun _ => (g 26 0) + 1)) 27 (upd (g 27) (ix (g 26 0)) x)) 28 (upd (g 28) (ix (g 26 0)) y))) else ((-2), g)) else ((-2), g)
set_option maxHeartbeats 4000000 in
set_option maxRecDepth 100000 in
theorem tX3_cause (l : Launch) (D : va_G) (cI cZ cC : ClassId) (q : Nat → Nat) (o : Nat) (g : Nat → Nat → Int32) (n : Nat) (hn : g 0 0 = nI n) (hnb : n ≤ 16) (mm : Nat) (hm : g 26 0 = nI mm) (hmb : mm ≤ 10) (x y : Int32) : WrI l yX3_cause wsX3_cause (rmK 1) D cI cZ cC [.ref o, .int x, .int y] (mW cI cZ q o g) (mW cI cZ q o ((fX3_cause g x y).2)) (fun ans => ans = (fX3_cause g x y).1) := by
  refine WrI.of (cc := cX3_cause) (maxL := 3) (ret := .int) (by decide) rfl (Nat.le_of_ble_eq_true rfl) ?_
  intro p e s m args below meth c Q A ls hx hb hml hts hown hK hP hD hS hA hret hl
  have hl : lv_has ls 3 [(0, .ref o), (1, .int x), (2, .int y)] := hl
  have hinX3 : ∀ w ∈ u_ws RX3 TX3 33, w ∈ wsX3_cause := (fun w h => List.mem_cons_of_mem _ (List.mem_append_right _ h))
  refine lv_iload_n hx hb dX3_cause_0 rfl (lv_at hl 1 rfl) ?_
  refine lv_iconst (v := 1) hx hb dX3_cause_1 (by decide) ?_
  refine lv_iconst (v := 1) hx hb dX3_cause_2 (by decide) ?_
  refine lv_aload_n hx hb dX3_cause_3 rfl (lv_at hl 0 rfl) ?_
  refine va_get (D := D) (ci := 3) (v := .int (g 0 0)) (C := RX3) (T := TX3) (N := 33) hx hb hts hinX3 hown hK hP 0 rfl rfl 0 (by decide) (hts (.fieldLink RX3 93 "TroubleCodesModel" "checks" "I") (mem_at 1 rfl)) (fun _ h9 => h9) rfl dX3_cause_4 ?_
  refine lv_ishl hx hb dX3_cause_7 ?_
  refine lv_iconst (v := 1) hx hb dX3_cause_8 (by decide) ?_
  refine lv_isub hx hb dX3_cause_9 ?_
  refine x_rdS (As := [.int x, .int 1, .int ((1 <<< ((g 0 0) &&& 31)) - 1)]) (rest := []) ⟨hx, hb, hml, hown, hts⟩ (tX3_in l D cI cZ cC x 1 ((1 <<< ((g 0 0) &&& 31)) - 1)) (va_cwS 3 hts gX3_cause_X3_in rfl rfl rfl (by decide +kernel) ⟨Nat.le_of_ble_eq_true rfl, Nat.le_of_ble_eq_true rfl⟩) hK trivial rfl hl.1 rfl (Nat.le_of_ble_eq_true rfl) dX3_cause_10 ⟨Nat.le_of_ble_eq_true rfl, Nat.le_of_ble_eq_true rfl⟩ (fun r_1 er_1 => ?_)
  have er_1 : r_1 = bI (1 ≤ x ∧ x ≤ ((1 <<< ((g 0 0) &&& 31)) - 1)) := er_1
  subst er_1
  refine lv_if_eq (tgt := 27) hx hb dX3_cause_13 (by decide) (fun c_2 => ?_) (fun c_2 => ?_)
  · have c_2 := bI_eq c_2
    refine lv_bipush (v := (-2)) hx hb dX3_cause_27 (by decide) ?_
    have es : fX3_cause g x y = ((-2), g) := by rw [fX3_cause]; rw [if_neg c_2]
    exact hret 29 _ _ _ _ (by rw [es]) (by rw [es]; exact hP) (by rw [es]; exact hD) hS rfl dX3_cause_29
  · have c_2 := bI_ne c_2
    refine lv_iload_n hx hb dX3_cause_16 rfl (lv_at hl 2 rfl) ?_
    refine lv_iconst (v := 1) hx hb dX3_cause_17 (by decide) ?_
    refine lv_sipush (v := 1000) hx hb dX3_cause_18 (by decide) ?_
    refine x_rdS (As := [.int y, .int 1, .int 1000]) (rest := []) ⟨hx, hb, hml, hown, hts⟩ (tX3_in l D cI cZ cC y 1 1000) (va_cwS 3 hts gX3_cause_X3_in rfl rfl rfl (by decide +kernel) ⟨Nat.le_of_ble_eq_true rfl, Nat.le_of_ble_eq_true rfl⟩) hK trivial rfl hl.1 rfl (Nat.le_of_ble_eq_true rfl) dX3_cause_21 ⟨Nat.le_of_ble_eq_true rfl, Nat.le_of_ble_eq_true rfl⟩ (fun r_3 er_3 => ?_)
    have er_3 : r_3 = bI (1 ≤ y ∧ y ≤ 1000) := er_3
    subst er_3
    refine lv_if_ne (tgt := 30) hx hb dX3_cause_24 (by decide) (fun c_4 => ?_) (fun c_4 => ?_)
    · have c_4 := bI_ne c_4
      refine lv_aload_n hx hb dX3_cause_30 rfl (lv_at hl 0 rfl) ?_
      refine va_get (D := D) (ci := 3) (v := .int (g 26 0)) (C := RX3) (T := TX3) (N := 33) hx hb hts hinX3 hown hK hP 0 rfl rfl 26 (by decide) (hts (.fieldLink RX3 141 "TroubleCodesModel" "causes" "I") (mem_at 2 rfl)) (fun _ h9 => h9) rfl dX3_cause_31 ?_
      refine lv_bipush (v := 10) hx hb dX3_cause_34 (by decide) ?_
      refine lv_icmp_ne (tgt := 42) hx hb dX3_cause_36 (by decide) (fun c_5 => ?_) (fun c_5 => ?_)
      · have hm9 : mm < 10 := Nat.lt_of_le_of_ne hmb (fun h => c_5 (by rw [hm, h]; rfl))
        have xm : ix (g 26 0) = mm := by rw [hm]; exact ix_nI (by omega)
        refine lv_aload_n hx hb dX3_cause_42 rfl (lv_at hl 0 rfl) ?_
        refine va_get (D := D) (ci := 3) (v := .ref (q 27)) (C := RX3) (T := TX3) (N := 33) hx hb hts hinX3 hown hK hP 0 rfl rfl 27 (by decide) (hts (.fieldLink RX3 78 "TroubleCodesModel" "makes" "[I") (mem_at 3 rfl)) (fun _ h9 => h9) rfl dX3_cause_43 ?_
        refine lv_aload_n hx hb dX3_cause_46 rfl (lv_at hl 0 rfl) ?_
        refine va_get (D := D) (ci := 3) (v := .int (g 26 0)) (C := RX3) (T := TX3) (N := 33) hx hb hts hinX3 hown hK hP 0 rfl rfl 26 (by decide) (hts (.fieldLink RX3 141 "TroubleCodesModel" "causes" "I") (mem_at 2 rfl)) (fun _ h9 => h9) rfl dX3_cause_47 ?_
        refine lv_iload_n hx hb dX3_cause_50 rfl (lv_at hl 1 rfl) ?_
        rw [hm]
        refine x_iast (k := mm) (f := g 27) (x := x) hx hb hK hP hD hS 22 rfl (by omega) (by decide) dX3_cause_51 (fun H locs hP hD hS => ?_)
        have hP : va_P D vwCl (mW cI cZ q o (va_up g 27 (upd (g 27) mm x))) H := hP
        have hD : va_D A (mW cI cZ q o (va_up g 27 (upd (g 27) mm x))) := hD
        refine lv_aload_n hx hb dX3_cause_52 rfl (lv_at hl 0 rfl) ?_
        refine va_get (D := D) (ci := 3) (v := .ref (q 28)) (C := RX3) (T := TX3) (N := 33) hx hb hts hinX3 hown hK hP 0 rfl rfl 28 (by decide) (hts (.fieldLink RX3 81 "TroubleCodesModel" "price" "[I") (mem_at 4 rfl)) (fun _ h9 => h9) rfl dX3_cause_53 ?_
        refine lv_aload_n hx hb dX3_cause_56 rfl (lv_at hl 0 rfl) ?_
        refine va_get (D := D) (ci := 3) (v := .int (g 26 0)) (C := RX3) (T := TX3) (N := 33) hx hb hts hinX3 hown hK hP 0 rfl rfl 26 (by decide) (hts (.fieldLink RX3 141 "TroubleCodesModel" "causes" "I") (mem_at 2 rfl)) (fun _ h9 => h9) rfl dX3_cause_57 ?_
        refine lv_iload_n hx hb dX3_cause_60 rfl (lv_at hl 2 rfl) ?_
        rw [hm]
        refine x_iast (k := mm) (f := g 28) (x := y) hx hb hK hP hD hS 23 rfl (by omega) (by decide) dX3_cause_61 (fun H locs hP hD hS => ?_)
        have hP : va_P D vwCl (mW cI cZ q o (va_up (va_up g 27 (upd (g 27) mm x)) 28 (upd (g 28) mm y))) H := hP
        have hD : va_D A (mW cI cZ q o (va_up (va_up g 27 (upd (g 27) mm x)) 28 (upd (g 28) mm y))) := hD
        refine lv_aload_n hx hb dX3_cause_62 rfl (lv_at hl 0 rfl) ?_
        refine lv_dup hx hb dX3_cause_63 rfl ?_
        refine va_get (D := D) (ci := 3) (v := .int (g 26 0)) (C := RX3) (T := TX3) (N := 33) hx hb hts hinX3 hown hK hP 0 rfl rfl 26 (by decide) (hts (.fieldLink RX3 141 "TroubleCodesModel" "causes" "I") (mem_at 2 rfl)) (fun _ h9 => h9) rfl dX3_cause_64 ?_
        refine lv_iconst (v := 1) hx hb dX3_cause_67 (by decide) ?_
        refine lv_iadd hx hb dX3_cause_68 ?_
        refine va_put (D := D) (ci := 3) (v := .int ((g 26 0) + 1)) (ty := .int) (C := RX3) (T := TX3) (N := 33) hx hb hts hinX3 tyX3 tyX3_ok nmX3 hown hK hP hD hS 0 rfl rfl 26 (by decide) (hts (.fieldLink RX3 141 "TroubleCodesModel" "causes" "I") (mem_at 2 rfl)) (fun _ h9 => h9) rfl (by decide +kernel) rfl rfl (Nat.le_of_ble_eq_true rfl) dX3_cause_69 (fun H locs hP hD hS => ?_)
        have hP : va_P D vwCl (mW cI cZ q o (va_up (va_up (va_up g 26 (fun _ => (g 26 0) + 1)) 27 (upd (g 27) mm x)) 28 (upd (g 28) mm y))) H := hP
        have hD : va_D A (mW cI cZ q o (va_up (va_up (va_up g 26 (fun _ => (g 26 0) + 1)) 27 (upd (g 27) mm x)) 28 (upd (g 28) mm y))) := hD
        refine lv_aload_n hx hb dX3_cause_72 rfl (lv_at hl 0 rfl) ?_
        refine va_get (D := D) (ci := 3) (v := .int ((g 26 0) + 1)) (C := RX3) (T := TX3) (N := 33) hx hb hts hinX3 hown hK hP 0 rfl rfl 26 (by decide) (hts (.fieldLink RX3 141 "TroubleCodesModel" "causes" "I") (mem_at 2 rfl)) (fun _ h9 => h9) rfl dX3_cause_73 ?_
        refine lv_iconst (v := 1) hx hb dX3_cause_76 (by decide) ?_
        refine lv_isub hx hb dX3_cause_77 ?_
        have es : fX3_cause g x y = (((g 26 0) + 1) - 1, va_up (va_up (va_up g 26 (fun _ => (g 26 0) + 1)) 27 (upd (g 27) mm x)) 28 (upd (g 28) mm y)) := by rw [fX3_cause]; simp only [xm]; rw [if_pos c_2, if_pos c_4, if_neg c_5]
        exact hret 78 _ _ _ _ (by rw [es]) (by rw [es]; exact hP) (by rw [es]; exact hD) hS rfl dX3_cause_78
      · refine lv_bipush (v := (-4)) hx hb dX3_cause_39 (by decide) ?_
        have es : fX3_cause g x y = ((-4), g) := by rw [fX3_cause]; rw [if_pos c_2, if_pos c_4, if_pos c_5]
        exact hret 41 _ _ _ _ (by rw [es]) (by rw [es]; exact hP) (by rw [es]; exact hD) hS rfl dX3_cause_41
    · have c_4 := bI_eq c_4
      refine lv_bipush (v := (-2)) hx hb dX3_cause_27 (by decide) ?_
      have es : fX3_cause g x y = ((-2), g) := by rw [fX3_cause]; rw [if_pos c_2, if_neg c_4]
      exact hret 29 _ _ _ _ (by rw [es]) (by rw [es]; exact hP) (by rw [es]; exact hD) hS rfl dX3_cause_29

set_option maxHeartbeats 4000000 in
set_option maxRecDepth 100000 in
theorem tX3_lamp (l : Launch) (D : va_G) (cI cZ cC : ClassId) (q : Nat → Nat) (o : Nat) (g : Nat → Nat → Int32) (n : Nat) (hn : g 0 0 = nI n) (hnb : n ≤ 16) : RdC l yX3_lamp wsX3_lamp (rmK 0) D cI cZ cC [.ref o] (fun H => va_P D vwCl (mW cI cZ q o g) H) (fun ans => ans = bI (anyN (fun j => !(g 7 j == 0) && g 8 j == 2) n = true)) := by
  refine RdC.of (cc := cX3_lamp) (maxL := 2) (ret := .int) (by decide) rfl (Nat.le_of_ble_eq_true rfl) ?_
  intro p e s m args below meth c Q ls hx hb hml hts hown hK hP hret hl
  have hl : lv_has ls 2 [(0, .ref o)] := hl
  have hP : va_P D vwCl (mW cI cZ q o g) s.heap := hP
  have hinX3 : ∀ w ∈ u_ws RX3 TX3 33, w ∈ wsX3_lamp := (fun w h => List.mem_cons_of_mem _ (List.mem_append_right _ h))
  refine lv_iconst (v := 0) hx hb dX3_lamp_0 (by decide) ?_
  refine lv_istore_n (lv' := [(1, .int 0), (0, .ref o)]) hx hb dX3_lamp_1 rfl hl (by decide) rfl (fun ls hl => ?_)
  have LOOP_1 : ∀ (fu k : Nat), k ≤ n → n - k < fu → ∀ (hno : anyN (fun j => !(g 7 j == 0) && g 8 j == 2) k = false), ∀ (ls : Array Slot), lv_has ls 2 [(0, .ref o), (1, .int (nI k))] → W p l e (rmK 0) s m args below meth c s.heap [] 0 0 Q (F0 m 2 ls []) := by
    intro fu
    induction fu with
    | zero => intro k h1 h2; exact absurd h2 (Nat.not_lt_zero _)
    | succ fu ih =>
      intro k hkn hfu hno ls hl
      refine lv_iload_n hx hb dX3_lamp_2 rfl (lv_at hl 1 rfl) ?_
      refine lv_aload_n hx hb dX3_lamp_3 rfl (lv_at hl 0 rfl) ?_
      refine va_get (D := D) (ci := 3) (v := .int (g 0 0)) (C := RX3) (T := TX3) (N := 33) hx hb hts hinX3 hown hK hP 0 rfl rfl 0 (by decide) (hts (.fieldLink RX3 93 "TroubleCodesModel" "checks" "I") (mem_at 1 rfl)) (fun _ h9 => h9) rfl dX3_lamp_4 ?_
      refine lv_icmp_ge (tgt := 37) hx hb dX3_lamp_7 (by decide) (fun c_2 => ?_) (fun c_2 => ?_)
      · have ekn : n = k := Nat.le_antisymm (kx_ge hn (by omega) (by omega) c_2) hkn
        subst ekn
        refine lv_iconst (v := 0) hx hb dX3_lamp_37 (by decide) ?_
        exact hret 38 _ _ ((bI_f (by rw [hno]; decide)).symm) rfl dX3_lamp_38
      · have hkl : k < n := kx_lt hn (by omega) (by omega) c_2
        refine lv_aload_n hx hb dX3_lamp_10 rfl (lv_at hl 0 rfl) ?_
        refine va_get (D := D) (ci := 3) (v := .ref (q 7)) (C := RX3) (T := TX3) (N := 33) hx hb hts hinX3 hown hK hP 0 rfl rfl 7 (by decide) (hts (.fieldLink RX3 28 "TroubleCodesModel" "hasLamp" "[Z") (mem_at 2 rfl)) (fun _ h9 => h9) rfl dX3_lamp_11 ?_
        refine lv_iload_n hx hb dX3_lamp_14 rfl (lv_at hl 1 rfl) ?_
        refine x_zald (k := k) (f := g 7) hx hb hK hP 7 rfl (by omega) (by decide) dX3_lamp_15 ?_
        refine lv_if_eq (tgt := 31) hx hb dX3_lamp_16 (by decide) (fun c_3 => ?_) (fun c_3 => ?_)
        · refine lv_iinc (v := nI (k + 1)) (lv' := [(1, .int (nI (k + 1))), (0, .ref o)]) hx hb dX3_lamp_31 hl (k := 1) rfl (nI_1 _) (by decide) rfl (fun ls hl => ?_)
          refine lv_goto (tgt := 2) hx hb dX3_lamp_34 (by decide) ?_
          exact ih (k + 1) (by omega) (by omega) (by rw [anyN, hno]; simp [c_2, Int32.not_le.mp c_2, c_3]) ls (by exact lv_sub hl [1, 0] rfl)
        · refine lv_aload_n hx hb dX3_lamp_19 rfl (lv_at hl 0 rfl) ?_
          refine va_get (D := D) (ci := 3) (v := .ref (q 8)) (C := RX3) (T := TX3) (N := 33) hx hb hts hinX3 hown hK hP 0 rfl rfl 8 (by decide) (hts (.fieldLink RX3 32 "TroubleCodesModel" "code" "[I") (mem_at 3 rfl)) (fun _ h9 => h9) rfl dX3_lamp_20 ?_
          refine lv_iload_n hx hb dX3_lamp_23 rfl (lv_at hl 1 rfl) ?_
          refine x_iald (k := k) (f := g 8) hx hb hK hP 8 rfl (by omega) (by decide) dX3_lamp_24 ?_
          refine lv_iconst (v := 2) hx hb dX3_lamp_25 (by decide) ?_
          refine lv_icmp_ne (tgt := 31) hx hb dX3_lamp_26 (by decide) (fun c_4 => ?_) (fun c_4 => ?_)
          · refine lv_iinc (v := nI (k + 1)) (lv' := [(1, .int (nI (k + 1))), (0, .ref o)]) hx hb dX3_lamp_31 hl (k := 1) rfl (nI_1 _) (by decide) rfl (fun ls hl => ?_)
            refine lv_goto (tgt := 2) hx hb dX3_lamp_34 (by decide) ?_
            exact ih (k + 1) (by omega) (by omega) (by rw [anyN, hno]; simp [c_2, Int32.not_le.mp c_2, c_3, c_4]) ls (by exact lv_sub hl [1, 0] rfl)
          · refine lv_iconst (v := 1) hx hb dX3_lamp_29 (by decide) ?_
            exact hret 30 _ _ (by rw [bI_t]; exact anyN_of (k := k) (by simp [c_2, Int32.not_le.mp c_2, c_3, c_4]) n hkl) rfl dX3_lamp_30
  have q_5 : (nI 0 : Int32) = 0 := by rfl
  exact LOOP_1 (n - 0 + 1) 0 (Nat.zero_le _) (Nat.lt_succ_self _) (rfl) ls (by rw [q_5]; exact lv_sub hl [1, 0] rfl)

def aboutF (g : Nat → Nat → Int32) (k : Nat) (x : Int32) : Int32 := if x = 0 then g 8 k else if x = 1 then g 9 k else if x = 2 then g 10 k else if x = 3 then g 11 k else if x = 4 then (if heldF (g 1) (g 2) (g 8) k = 0 then 0 else 1) else if x = 5 then (if g 21 k = 0 then 0 else 1) else if x = 6 then (if g 12 k = 0 then 0 else 1) else g 1 k
def countF (g : Nat → Nat → Int32) (n : Nat) (x : Int32) : Int32 := if x = 0 then g 0 0 else if x = 1 then g 18 0 else if x = 2 then sumN (fun j => if g 8 j = 1 then 1 else 0) n else if x = 3 then sumN (fun j => if g 8 j = 2 then 1 else 0) n else if x = 4 then sumN (fun j => if g 8 j = 3 then 1 else 0) n else if x = 5 then sumN (fun j => if g 21 j = 0 then 0 else 1) n else if x = 6 then g 26 0 else if x = 7 then (if g 17 0 = 0 then 0 else 1) else -2

set_option maxHeartbeats 4000000 in
set_option maxRecDepth 100000 in
theorem tX3_aboutOf (l : Launch) (D : va_G) (cI cZ cC : ClassId) (q : Nat → Nat) (o : Nat) (g : Nat → Nat → Int32) (k : Nat) (hk : k < 16) (hfo : g 1 k = 2 → ∃ f, f < 16 ∧ g 2 k = nI f) (x : Int32) : RdC l yX3_aboutOf wsX3_aboutOf (rmK 1) D cI cZ cC [.ref o, .int (nI k), .int x] (fun H => va_P D vwCl (mW cI cZ q o g) H) (fun ans => ans = aboutF g k x) := by
  refine RdC.of (cc := cX3_aboutOf) (maxL := 3) (ret := .int) (by decide) rfl (Nat.le_of_ble_eq_true rfl) ?_
  intro p e s m args below meth c Q ls hx hb hml hts hown hK hP hret hl
  have hl : lv_has ls 3 [(0, .ref o), (1, .int (nI k)), (2, .int x)] := hl
  have hP : va_P D vwCl (mW cI cZ q o g) s.heap := hP
  have hinX3 : ∀ w ∈ u_ws RX3 TX3 33, w ∈ wsX3_aboutOf := (fun w h => List.mem_cons_of_mem _ (List.mem_append_right _ h))
  refine lv_iload_n hx hb dX3_aboutOf_0 rfl (lv_at hl 2 rfl) ?_
  by_cases c_1 : x.toInt < 0 ∨ 6 < x.toInt
  · refine lv_tableOut (tgt := 116) hx hb dX3_aboutOf_1 c_1 (by decide) ?_
    refine lv_aload_n hx hb dX3_aboutOf_116 rfl (lv_at hl 0 rfl) ?_
    refine va_get (D := D) (ci := 3) (v := .ref (q 1)) (C := RX3) (T := TX3) (N := 33) hx hb hts hinX3 hown hK hP 0 rfl rfl 1 (by decide) (hts (.fieldLink RX3 7 "TroubleCodesModel" "sort" "[I") (mem_at 7 rfl)) (fun _ h9 => h9) rfl dX3_aboutOf_117 ?_
    refine lv_iload_n hx hb dX3_aboutOf_120 rfl (lv_at hl 1 rfl) ?_
    refine x_iald (k := k) (f := g 1) hx hb hK hP 1 rfl (by omega) (by decide) dX3_aboutOf_121 ?_
    exact hret 122 _ _ (by have h := tb_out6 c_1; obtain ⟨h0, h1, h2, h3, h4, h5, h6⟩ := h; simp [aboutF, h0, h1, h2, h3, h4, h5, h6]) rfl dX3_aboutOf_122
  · have c_1 := tb_in6 (x := x) c_1
    rcases c_1 with c_1 | c_1 | c_1 | c_1 | c_1 | c_1 | c_1
    · refine lv_tableIn (off := 43) (tgt := 44) hx hb dX3_aboutOf_1 (by rw [c_1]; decide) (by rw [c_1]; decide) (by rw [c_1]; rfl) (by decide) ?_
      refine lv_aload_n hx hb dX3_aboutOf_44 rfl (lv_at hl 0 rfl) ?_
      refine va_get (D := D) (ci := 3) (v := .ref (q 8)) (C := RX3) (T := TX3) (N := 33) hx hb hts hinX3 hown hK hP 0 rfl rfl 8 (by decide) (hts (.fieldLink RX3 32 "TroubleCodesModel" "code" "[I") (mem_at 1 rfl)) (fun _ h9 => h9) rfl dX3_aboutOf_45 ?_
      refine lv_iload_n hx hb dX3_aboutOf_48 rfl (lv_at hl 1 rfl) ?_
      refine x_iald (k := k) (f := g 8) hx hb hK hP 8 rfl (by omega) (by decide) dX3_aboutOf_49 ?_
      exact hret 50 _ _ (by rw [c_1]; simp [aboutF]) rfl dX3_aboutOf_50
    · refine lv_tableIn (off := 50) (tgt := 51) hx hb dX3_aboutOf_1 (by rw [c_1]; decide) (by rw [c_1]; decide) (by rw [c_1]; rfl) (by decide) ?_
      refine lv_aload_n hx hb dX3_aboutOf_51 rfl (lv_at hl 0 rfl) ?_
      refine va_get (D := D) (ci := 3) (v := .ref (q 9)) (C := RX3) (T := TX3) (N := 33) hx hb hts hinX3 hown hK hP 0 rfl rfl 9 (by decide) (hts (.fieldLink RX3 35 "TroubleCodesModel" "bads" "[I") (mem_at 2 rfl)) (fun _ h9 => h9) rfl dX3_aboutOf_52 ?_
      refine lv_iload_n hx hb dX3_aboutOf_55 rfl (lv_at hl 1 rfl) ?_
      refine x_iald (k := k) (f := g 9) hx hb hK hP 9 rfl (by omega) (by decide) dX3_aboutOf_56 ?_
      exact hret 57 _ _ (by rw [c_1]; simp [aboutF]) rfl dX3_aboutOf_57
    · refine lv_tableIn (off := 57) (tgt := 58) hx hb dX3_aboutOf_1 (by rw [c_1]; decide) (by rw [c_1]; decide) (by rw [c_1]; rfl) (by decide) ?_
      refine lv_aload_n hx hb dX3_aboutOf_58 rfl (lv_at hl 0 rfl) ?_
      refine va_get (D := D) (ci := 3) (v := .ref (q 10)) (C := RX3) (T := TX3) (N := 33) hx hb hts hinX3 hown hK hP 0 rfl rfl 10 (by decide) (hts (.fieldLink RX3 38 "TroubleCodesModel" "goods" "[I") (mem_at 3 rfl)) (fun _ h9 => h9) rfl dX3_aboutOf_59 ?_
      refine lv_iload_n hx hb dX3_aboutOf_62 rfl (lv_at hl 1 rfl) ?_
      refine x_iald (k := k) (f := g 10) hx hb hK hP 10 rfl (by omega) (by decide) dX3_aboutOf_63 ?_
      exact hret 64 _ _ (by rw [c_1]; simp [aboutF]) rfl dX3_aboutOf_64
    · refine lv_tableIn (off := 64) (tgt := 65) hx hb dX3_aboutOf_1 (by rw [c_1]; decide) (by rw [c_1]; decide) (by rw [c_1]; rfl) (by decide) ?_
      refine lv_aload_n hx hb dX3_aboutOf_65 rfl (lv_at hl 0 rfl) ?_
      refine va_get (D := D) (ci := 3) (v := .ref (q 11)) (C := RX3) (T := TX3) (N := 33) hx hb hts hinX3 hown hK hP 0 rfl rfl 11 (by decide) (hts (.fieldLink RX3 41 "TroubleCodesModel" "age" "[I") (mem_at 4 rfl)) (fun _ h9 => h9) rfl dX3_aboutOf_66 ?_
      refine lv_iload_n hx hb dX3_aboutOf_69 rfl (lv_at hl 1 rfl) ?_
      refine x_iald (k := k) (f := g 11) hx hb hK hP 11 rfl (by omega) (by decide) dX3_aboutOf_70 ?_
      exact hret 71 _ _ (by rw [c_1]; simp [aboutF]) rfl dX3_aboutOf_71
    · refine lv_tableIn (off := 71) (tgt := 72) hx hb dX3_aboutOf_1 (by rw [c_1]; decide) (by rw [c_1]; decide) (by rw [c_1]; rfl) (by decide) ?_
      refine lv_aload_n hx hb dX3_aboutOf_72 rfl (lv_at hl 0 rfl) ?_
      refine lv_iload_n hx hb dX3_aboutOf_73 rfl (lv_at hl 1 rfl) ?_
      refine x_rdV (As := [.int (nI k)]) (rest := []) ⟨hx, hb, hml, hown, hts⟩ (tX3_isHeld l D cI cZ cC q o g k hk hfo) (cwV 1 hts gX3_aboutOf_X3_isHeld rfl rfl rfl (by decide +kernel) ⟨Nat.le_of_ble_eq_true rfl, Nat.le_of_ble_eq_true rfl⟩) hK (x_recv (ci := 3) hK hP rfl (q0 := 0) rfl) hP rfl hl.1 rfl (Nat.le_of_ble_eq_true rfl) dX3_aboutOf_74 ⟨Nat.le_of_ble_eq_true rfl, Nat.le_of_ble_eq_true rfl⟩ (fun r_2 er_2 => ?_)
      have er_2 : r_2 = heldF (g 1) (g 2) (g 8) k := er_2
      subst er_2
      refine lv_if_eq (tgt := 84) hx hb dX3_aboutOf_77 (by decide) (fun c_3 => ?_) (fun c_3 => ?_)
      · refine lv_iconst (v := 0) hx hb dX3_aboutOf_84 (by decide) ?_
        exact hret 85 _ _ (by rw [c_1]; simp [aboutF, c_3]) rfl dX3_aboutOf_85
      · refine lv_iconst (v := 1) hx hb dX3_aboutOf_80 (by decide) ?_
        refine lv_goto (tgt := 85) hx hb dX3_aboutOf_81 (by decide) ?_
        exact hret 85 _ _ (by rw [c_1]; simp [aboutF, c_3]) rfl dX3_aboutOf_85
    · refine lv_tableIn (off := 85) (tgt := 86) hx hb dX3_aboutOf_1 (by rw [c_1]; decide) (by rw [c_1]; decide) (by rw [c_1]; rfl) (by decide) ?_
      refine lv_aload_n hx hb dX3_aboutOf_86 rfl (lv_at hl 0 rfl) ?_
      refine va_get (D := D) (ci := 3) (v := .ref (q 21)) (C := RX3) (T := TX3) (N := 33) hx hb hts hinX3 hown hK hP 0 rfl rfl 21 (by decide) (hts (.fieldLink RX3 66 "TroubleCodesModel" "isFrozen" "[Z") (mem_at 5 rfl)) (fun _ h9 => h9) rfl dX3_aboutOf_87 ?_
      refine lv_iload_n hx hb dX3_aboutOf_90 rfl (lv_at hl 1 rfl) ?_
      refine x_zald (k := k) (f := g 21) hx hb hK hP 18 rfl (by omega) (by decide) dX3_aboutOf_91 ?_
      refine lv_if_eq (tgt := 99) hx hb dX3_aboutOf_92 (by decide) (fun c_4 => ?_) (fun c_4 => ?_)
      · refine lv_iconst (v := 0) hx hb dX3_aboutOf_99 (by decide) ?_
        exact hret 100 _ _ (by rw [c_1]; simp [aboutF, c_4]) rfl dX3_aboutOf_100
      · refine lv_iconst (v := 1) hx hb dX3_aboutOf_95 (by decide) ?_
        refine lv_goto (tgt := 100) hx hb dX3_aboutOf_96 (by decide) ?_
        exact hret 100 _ _ (by rw [c_1]; simp [aboutF, c_4]) rfl dX3_aboutOf_100
    · refine lv_tableIn (off := 100) (tgt := 101) hx hb dX3_aboutOf_1 (by rw [c_1]; decide) (by rw [c_1]; decide) (by rw [c_1]; rfl) (by decide) ?_
      refine lv_aload_n hx hb dX3_aboutOf_101 rfl (lv_at hl 0 rfl) ?_
      refine va_get (D := D) (ci := 3) (v := .ref (q 12)) (C := RX3) (T := TX3) (N := 33) hx hb hts hinX3 hown hK hP 0 rfl rfl 12 (by decide) (hts (.fieldLink RX3 44 "TroubleCodesModel" "hasRun" "[Z") (mem_at 6 rfl)) (fun _ h9 => h9) rfl dX3_aboutOf_102 ?_
      refine lv_iload_n hx hb dX3_aboutOf_105 rfl (lv_at hl 1 rfl) ?_
      refine x_zald (k := k) (f := g 12) hx hb hK hP 12 rfl (by omega) (by decide) dX3_aboutOf_106 ?_
      refine lv_if_eq (tgt := 114) hx hb dX3_aboutOf_107 (by decide) (fun c_5 => ?_) (fun c_5 => ?_)
      · refine lv_iconst (v := 0) hx hb dX3_aboutOf_114 (by decide) ?_
        exact hret 115 _ _ (by rw [c_1]; simp [aboutF, c_5]) rfl dX3_aboutOf_115
      · refine lv_iconst (v := 1) hx hb dX3_aboutOf_110 (by decide) ?_
        refine lv_goto (tgt := 115) hx hb dX3_aboutOf_111 (by decide) ?_
        exact hret 115 _ _ (by rw [c_1]; simp [aboutF, c_5]) rfl dX3_aboutOf_115

set_option maxHeartbeats 4000000 in
set_option maxRecDepth 100000 in
theorem tX3_count (l : Launch) (D : va_G) (cI cZ cC : ClassId) (q : Nat → Nat) (o : Nat) (g : Nat → Nat → Int32) (n : Nat) (hn : g 0 0 = nI n) (hnb : n ≤ 16) (x : Int32) : RdC l yX3_count wsX3_count (rmK 1) D cI cZ cC [.ref o, .int x] (fun H => va_P D vwCl (mW cI cZ q o g) H) (fun ans => ans = countF g n x) := by
  refine RdC.of (cc := cX3_count) (maxL := 2) (ret := .int) (by decide) rfl (Nat.le_of_ble_eq_true rfl) ?_
  intro p e s m args below meth c Q ls hx hb hml hts hown hK hP hret hl
  have hl : lv_has ls 2 [(0, .ref o), (1, .int x)] := hl
  have hP : va_P D vwCl (mW cI cZ q o g) s.heap := hP
  have hinX3 : ∀ w ∈ u_ws RX3 TX3 33, w ∈ wsX3_count := (fun w h => List.mem_cons_of_mem _ (List.mem_append_right _ h))
  refine lv_iload_n hx hb dX3_count_0 rfl (lv_at hl 1 rfl) ?_
  by_cases c_1 : x.toInt < 0 ∨ 7 < x.toInt
  · refine lv_tableOut (tgt := 99) hx hb dX3_count_1 c_1 (by decide) ?_
    refine lv_bipush (v := (-2)) hx hb dX3_count_99 (by decide) ?_
    exact hret 101 _ _ (by have h := tb_out7 c_1; obtain ⟨h0, h1, h2, h3, h4, h5, h6, h7⟩ := h; simp [countF, h0, h1, h2, h3, h4, h5, h6, h7]) rfl dX3_count_101
  · have c_1 := tb_in7 (x := x) c_1
    rcases c_1 with c_1 | c_1 | c_1 | c_1 | c_1 | c_1 | c_1 | c_1
    · refine lv_tableIn (off := 47) (tgt := 48) hx hb dX3_count_1 (by rw [c_1]; decide) (by rw [c_1]; decide) (by rw [c_1]; rfl) (by decide) ?_
      refine lv_aload_n hx hb dX3_count_48 rfl (lv_at hl 0 rfl) ?_
      refine va_get (D := D) (ci := 3) (v := .int (g 0 0)) (C := RX3) (T := TX3) (N := 33) hx hb hts hinX3 hown hK hP 0 rfl rfl 0 (by decide) (hts (.fieldLink RX3 93 "TroubleCodesModel" "checks" "I") (mem_at 1 rfl)) (fun _ h9 => h9) rfl dX3_count_49 ?_
      exact hret 52 _ _ (by rw [c_1]; simp [countF]) rfl dX3_count_52
    · refine lv_tableIn (off := 52) (tgt := 53) hx hb dX3_count_1 (by rw [c_1]; decide) (by rw [c_1]; decide) (by rw [c_1]; rfl) (by decide) ?_
      refine lv_aload_n hx hb dX3_count_53 rfl (lv_at hl 0 rfl) ?_
      refine va_get (D := D) (ci := 3) (v := .int (g 18 0)) (C := RX3) (T := TX3) (N := 33) hx hb hts hinX3 hown hK hP 0 rfl rfl 18 (by decide) (hts (.fieldLink RX3 108 "TroubleCodesModel" "drives" "I") (mem_at 2 rfl)) (fun _ h9 => h9) rfl dX3_count_54 ?_
      exact hret 57 _ _ (by rw [c_1]; simp [countF]) rfl dX3_count_57
    · refine lv_tableIn (off := 57) (tgt := 58) hx hb dX3_count_1 (by rw [c_1]; decide) (by rw [c_1]; decide) (by rw [c_1]; rfl) (by decide) ?_
      refine lv_aload_n hx hb dX3_count_58 rfl (lv_at hl 0 rfl) ?_
      refine lv_iconst (v := 1) hx hb dX3_count_59 (by decide) ?_
      refine x_rdV (As := [.int 1]) (rest := []) ⟨hx, hb, hml, hown, hts⟩ (tX3_manyOf l D cI cZ cC q o g n hn hnb 1) (cwV 1 hts gX3_count_X3_manyOf rfl rfl rfl (by decide +kernel) ⟨Nat.le_of_ble_eq_true rfl, Nat.le_of_ble_eq_true rfl⟩) hK (x_recv (ci := 3) hK hP rfl (q0 := 0) rfl) hP rfl hl.1 rfl (Nat.le_of_ble_eq_true rfl) dX3_count_60 ⟨Nat.le_of_ble_eq_true rfl, Nat.le_of_ble_eq_true rfl⟩ (fun r_2 er_2 => ?_)
      have er_2 : r_2 = sumN (fun j => if (g 8) j = 1 then 1 else 0) n := er_2
      subst er_2
      exact hret 63 _ _ (by rw [c_1]; simp [countF]) rfl dX3_count_63
    · refine lv_tableIn (off := 63) (tgt := 64) hx hb dX3_count_1 (by rw [c_1]; decide) (by rw [c_1]; decide) (by rw [c_1]; rfl) (by decide) ?_
      refine lv_aload_n hx hb dX3_count_64 rfl (lv_at hl 0 rfl) ?_
      refine lv_iconst (v := 2) hx hb dX3_count_65 (by decide) ?_
      refine x_rdV (As := [.int 2]) (rest := []) ⟨hx, hb, hml, hown, hts⟩ (tX3_manyOf l D cI cZ cC q o g n hn hnb 2) (cwV 1 hts gX3_count_X3_manyOf rfl rfl rfl (by decide +kernel) ⟨Nat.le_of_ble_eq_true rfl, Nat.le_of_ble_eq_true rfl⟩) hK (x_recv (ci := 3) hK hP rfl (q0 := 0) rfl) hP rfl hl.1 rfl (Nat.le_of_ble_eq_true rfl) dX3_count_66 ⟨Nat.le_of_ble_eq_true rfl, Nat.le_of_ble_eq_true rfl⟩ (fun r_3 er_3 => ?_)
      have er_3 : r_3 = sumN (fun j => if (g 8) j = 2 then 1 else 0) n := er_3
      subst er_3
      exact hret 69 _ _ (by rw [c_1]; simp [countF]) rfl dX3_count_69
    · refine lv_tableIn (off := 69) (tgt := 70) hx hb dX3_count_1 (by rw [c_1]; decide) (by rw [c_1]; decide) (by rw [c_1]; rfl) (by decide) ?_
      refine lv_aload_n hx hb dX3_count_70 rfl (lv_at hl 0 rfl) ?_
      refine lv_iconst (v := 3) hx hb dX3_count_71 (by decide) ?_
      refine x_rdV (As := [.int 3]) (rest := []) ⟨hx, hb, hml, hown, hts⟩ (tX3_manyOf l D cI cZ cC q o g n hn hnb 3) (cwV 1 hts gX3_count_X3_manyOf rfl rfl rfl (by decide +kernel) ⟨Nat.le_of_ble_eq_true rfl, Nat.le_of_ble_eq_true rfl⟩) hK (x_recv (ci := 3) hK hP rfl (q0 := 0) rfl) hP rfl hl.1 rfl (Nat.le_of_ble_eq_true rfl) dX3_count_72 ⟨Nat.le_of_ble_eq_true rfl, Nat.le_of_ble_eq_true rfl⟩ (fun r_4 er_4 => ?_)
      have er_4 : r_4 = sumN (fun j => if (g 8) j = 3 then 1 else 0) n := er_4
      subst er_4
      exact hret 75 _ _ (by rw [c_1]; simp [countF]) rfl dX3_count_75
    · refine lv_tableIn (off := 75) (tgt := 76) hx hb dX3_count_1 (by rw [c_1]; decide) (by rw [c_1]; decide) (by rw [c_1]; rfl) (by decide) ?_
      refine lv_aload_n hx hb dX3_count_76 rfl (lv_at hl 0 rfl) ?_
      refine x_rdV (As := []) (rest := []) ⟨hx, hb, hml, hown, hts⟩ (tX3_manyFrozen l D cI cZ cC q o g n hn hnb) (cwV 0 hts gX3_count_X3_manyFrozen rfl rfl rfl (by decide +kernel) ⟨Nat.le_of_ble_eq_true rfl, Nat.le_of_ble_eq_true rfl⟩) hK (x_recv (ci := 3) hK hP rfl (q0 := 0) rfl) hP rfl hl.1 rfl (Nat.le_of_ble_eq_true rfl) dX3_count_77 ⟨Nat.le_of_ble_eq_true rfl, Nat.le_of_ble_eq_true rfl⟩ (fun r_5 er_5 => ?_)
      have er_5 : r_5 = sumN (fun j => if (g 21) j = 0 then 0 else 1) n := er_5
      subst er_5
      exact hret 80 _ _ (by rw [c_1]; simp [countF]) rfl dX3_count_80
    · refine lv_tableIn (off := 80) (tgt := 81) hx hb dX3_count_1 (by rw [c_1]; decide) (by rw [c_1]; decide) (by rw [c_1]; rfl) (by decide) ?_
      refine lv_aload_n hx hb dX3_count_81 rfl (lv_at hl 0 rfl) ?_
      refine va_get (D := D) (ci := 3) (v := .int (g 26 0)) (C := RX3) (T := TX3) (N := 33) hx hb hts hinX3 hown hK hP 0 rfl rfl 26 (by decide) (hts (.fieldLink RX3 141 "TroubleCodesModel" "causes" "I") (mem_at 3 rfl)) (fun _ h9 => h9) rfl dX3_count_82 ?_
      exact hret 85 _ _ (by rw [c_1]; simp [countF]) rfl dX3_count_85
    · refine lv_tableIn (off := 85) (tgt := 86) hx hb dX3_count_1 (by rw [c_1]; decide) (by rw [c_1]; decide) (by rw [c_1]; rfl) (by decide) ?_
      refine lv_aload_n hx hb dX3_count_86 rfl (lv_at hl 0 rfl) ?_
      refine va_get (D := D) (ci := 3) (v := .int (g 17 0)) (C := RX3) (T := TX3) (N := 33) hx hb hts hinX3 hown hK hP 0 rfl rfl 17 (by decide) (hts (.fieldLink RX3 104 "TroubleCodesModel" "goes" "Z") (mem_at 4 rfl)) (fun _ h9 => h9) rfl dX3_count_87 ?_
      refine lv_if_eq (tgt := 97) hx hb dX3_count_90 (by decide) (fun c_6 => ?_) (fun c_6 => ?_)
      · refine lv_iconst (v := 0) hx hb dX3_count_97 (by decide) ?_
        exact hret 98 _ _ (by rw [c_1]; simp [countF, c_6]) rfl dX3_count_98
      · refine lv_iconst (v := 1) hx hb dX3_count_93 (by decide) ?_
        refine lv_goto (tgt := 98) hx hb dX3_count_94 (by decide) ?_
        exact hret 98 _ _ (by rw [c_1]; simp [countF, c_6]) rfl dX3_count_98

def fX3_about (g : Nat → Nat → Int32) (x y : Int32) : Int32 := if 0 ≤ x ∧ x ≤ (g 0 0 - 1) then (if 0 ≤ y ∧ y ≤ 7 then (aboutF g (ix x) y) else (-2)) else (-2)
set_option maxHeartbeats 4000000 in
set_option maxRecDepth 100000 in
theorem tX3_about (l : Launch) (D : va_G) (cI cZ cC : ClassId) (q : Nat → Nat) (o : Nat) (g : Nat → Nat → Int32) (n : Nat) (hn : g 0 0 = nI n) (hnb : n ≤ 16) (hfo : ∀ k, k < n → g 1 k = 2 → ∃ f, f < 16 ∧ g 2 k = nI f) (x y : Int32) : RdC l yX3_about wsX3_about (rmK 2) D cI cZ cC [.ref o, .int x, .int y] (fun H => va_P D vwCl (mW cI cZ q o g) H) (fun ans => ans = fX3_about g x y) := by
  refine RdC.of (cc := cX3_about) (maxL := 3) (ret := .int) (by decide) rfl (Nat.le_of_ble_eq_true rfl) ?_
  intro p e s m args below meth c Q ls hx hb hml hts hown hK hP hret hl
  have hl : lv_has ls 3 [(0, .ref o), (1, .int x), (2, .int y)] := hl
  have hP : va_P D vwCl (mW cI cZ q o g) s.heap := hP
  refine lv_aload_n hx hb dX3_about_0 rfl (lv_at hl 0 rfl) ?_
  refine lv_iload_n hx hb dX3_about_1 rfl (lv_at hl 1 rfl) ?_
  refine x_rdV (As := [.int x]) (rest := []) ⟨hx, hb, hml, hown, hts⟩ (tX3_isCheck l D cI cZ cC q o g x) (cwV 1 hts gX3_about_X3_isCheck rfl rfl rfl (by decide +kernel) ⟨Nat.le_of_ble_eq_true rfl, Nat.le_of_ble_eq_true rfl⟩) hK (x_recv (ci := 3) hK hP rfl (q0 := 0) rfl) hP rfl hl.1 rfl (Nat.le_of_ble_eq_true rfl) dX3_about_2 ⟨Nat.le_of_ble_eq_true rfl, Nat.le_of_ble_eq_true rfl⟩ (fun r_1 er_1 => ?_)
  have er_1 : r_1 = bI (0 ≤ x ∧ x ≤ (g 0 0 - 1)) := er_1
  subst er_1
  refine lv_if_eq (tgt := 27) hx hb dX3_about_5 (by decide) (fun c_2 => ?_) (fun c_2 => ?_)
  · have c_2 := bI_eq c_2
    refine lv_bipush (v := (-2)) hx hb dX3_about_27 (by decide) ?_
    exact hret 29 _ _ (by rw [fX3_about]; rw [if_neg c_2]) rfl dX3_about_29
  · have c_2 := bI_ne c_2
    refine lv_iload_n hx hb dX3_about_8 rfl (lv_at hl 2 rfl) ?_
    refine lv_iconst (v := 0) hx hb dX3_about_9 (by decide) ?_
    refine lv_bipush (v := 7) hx hb dX3_about_10 (by decide) ?_
    refine x_rdS (As := [.int y, .int 0, .int 7]) (rest := []) ⟨hx, hb, hml, hown, hts⟩ (tX3_in l D cI cZ cC y 0 7) (va_cwS 3 hts gX3_about_X3_in rfl rfl rfl (by decide +kernel) ⟨Nat.le_of_ble_eq_true rfl, Nat.le_of_ble_eq_true rfl⟩) hK trivial rfl hl.1 rfl (Nat.le_of_ble_eq_true rfl) dX3_about_12 ⟨Nat.le_of_ble_eq_true rfl, Nat.le_of_ble_eq_true rfl⟩ (fun r_3 er_3 => ?_)
    have er_3 : r_3 = bI (0 ≤ y ∧ y ≤ 7) := er_3
    subst er_3
    refine lv_if_eq (tgt := 27) hx hb dX3_about_15 (by decide) (fun c_4 => ?_) (fun c_4 => ?_)
    · have c_4 := bI_eq c_4
      refine lv_bipush (v := (-2)) hx hb dX3_about_27 (by decide) ?_
      exact hret 29 _ _ (by rw [fX3_about]; rw [if_pos c_2, if_neg c_4]) rfl dX3_about_29
    · have c_4 := bI_ne c_4
      obtain ⟨j, hj, ej⟩ := ixck hn (by omega) c_2
      subst ej
      have xj : ix (nI j) = j := ix_nI (by omega)
      refine lv_aload_n hx hb dX3_about_18 rfl (lv_at hl 0 rfl) ?_
      refine lv_iload_n hx hb dX3_about_19 rfl (lv_at hl 1 rfl) ?_
      refine lv_iload_n hx hb dX3_about_20 rfl (lv_at hl 2 rfl) ?_
      refine x_rdV (As := [.int (nI j), .int y]) (rest := []) ⟨hx, hb, hml, hown, hts⟩ (tX3_aboutOf l D cI cZ cC q o g j (by omega) (hfo j hj) y) (cwV 2 hts gX3_about_X3_aboutOf rfl rfl rfl (by decide +kernel) ⟨Nat.le_of_ble_eq_true rfl, Nat.le_of_ble_eq_true rfl⟩) hK (x_recv (ci := 3) hK hP rfl (q0 := 0) rfl) hP rfl hl.1 rfl (Nat.le_of_ble_eq_true rfl) dX3_about_21 ⟨Nat.le_of_ble_eq_true rfl, Nat.le_of_ble_eq_true rfl⟩ (fun r_5 er_5 => ?_)
      have er_5 : r_5 = aboutF g j y := er_5
      subst er_5
      refine lv_goto (tgt := 29) hx hb dX3_about_24 (by decide) ?_
      exact hret 29 _ _ (by rw [fX3_about]; simp only [xj]; rw [if_pos c_2, if_pos c_4]) rfl dX3_about_29
end
section
theorem shl1a : ∀ m : Fin 17, (1 : Int32) <<< (nI m.val &&& 31) = nI (2 ^ m.val) := by decide
theorem shl1 {m : Nat} (h : m ≤ 16) : (1 : Int32) <<< (nI m &&& 31) = nI (2 ^ m) := shl1a ⟨m, by omega⟩
theorem shl1x {x : Int32} {m : Nat} (e : x = nI m) (h : m ≤ 16) : (1 : Int32) <<< (x &&& 31) = nI (2 ^ m) := by rw [e]; exact shl1 h
theorem pow_le16 {m : Nat} (h : m ≤ 16) : 2 ^ m ≤ 65536 := Nat.pow_le_pow_right (by decide) h
theorem pow_le10 {m : Nat} (h : m ≤ 10) : 2 ^ m ≤ 1024 := Nat.pow_le_pow_right (by decide) h
def popG : Nat → Nat → Nat
  | 0, _ => 0
  | t + 1, y => y % 2 + popG t (y / 2)
theorem popG_0 : ∀ t, popG t 0 = 0
  | 0 => rfl
  | t + 1 => by rw [popG]; simp [popG_0 t]
theorem popG_le : ∀ t y, popG t y ≤ t
  | 0, _ => Nat.le_refl _
  | t + 1, y => by
    have := popG_le t (y / 2)
    rw [popG]; omega
theorem and1N {y : Nat} (h : y < 2 ^ 31) : nI y &&& 1 = nI (y % 2) := pk_andN (by omega) 1 (by decide)
theorem shr1N {y : Nat} (h : y < 2 ^ 31) : nI y >>> (1 &&& 31) = nI (y / 2) := pk_shrN h _ 1 (by decide)
def orM (mk : Nat → Int32) (w : Int32) : Nat → Int32
  | 0 => 0
  | i + 1 => orM mk w i ||| (if (w >>> (nI i &&& 31)) &&& 1 = 1 then mk i else 0)
def exb (hr co : Nat → Int32) (bd : Int32) : Nat → Bool
  | 0 => true
  | k + 1 => exb hr co bd k && (hr k == 0 || (decide (co k = 2) == decide ((bd >>> (nI k &&& 31)) &&& 1 = 1)))
def flF (E : Nat → Bool) (li0 : Nat → Int32) : Nat → Nat × Nat × (Nat → Int32)
  | 0 => (0, 0, li0)
  | z + 1 =>
    if E z = true ∧ ((flF E li0 z).1 = 0 ∨ popG 16 z ≤ (flF E li0 z).2.1) then
      (if (if 0 < (flF E li0 z).1 ∧ popG 16 z < (flF E li0 z).2.1 then 0 else (flF E li0 z).1) < 10 then
        ((if 0 < (flF E li0 z).1 ∧ popG 16 z < (flF E li0 z).2.1 then 0 else (flF E li0 z).1) + 1, popG 16 z, upd (flF E li0 z).2.2 (if 0 < (flF E li0 z).1 ∧ popG 16 z < (flF E li0 z).2.1 then 0 else (flF E li0 z).1) (nI z))
      else ((if 0 < (flF E li0 z).1 ∧ popG 16 z < (flF E li0 z).2.1 then 0 else (flF E li0 z).1), popG 16 z, (flF E li0 z).2.2))
    else flF E li0 z
theorem flF_b (E : Nat → Bool) (li0 : Nat → Int32) : ∀ z, (flF E li0 z).1 ≤ 10 ∧ (flF E li0 z).2.1 ≤ 16
  | 0 => ⟨Nat.zero_le _, Nat.zero_le _⟩
  | z + 1 => by
    have ih := flF_b E li0 z
    have hp := popG_le 16 z
    rw [flF]
    by_cases h1 : E z = true ∧ ((flF E li0 z).1 = 0 ∨ popG 16 z ≤ (flF E li0 z).2.1)
    · rw [if_pos h1]
      by_cases h2 : 0 < (flF E li0 z).1 ∧ popG 16 z < (flF E li0 z).2.1
      · rw [if_pos h2]; simp; exact hp
      · rw [if_neg h2]
        by_cases h3 : (flF E li0 z).1 < 10
        · rw [if_pos h3]; exact ⟨h3, hp⟩
        · rw [if_neg h3]; exact ⟨ih.1, hp⟩
    · rw [if_neg h1]; exact ih
def exE (g : Nat → Nat → Int32) (n mm : Nat) : Nat → Bool := fun z => exb (g 12) (g 8) (orM (g 27) (nI z) mm) n

set_option maxHeartbeats 4000000 in
set_option maxRecDepth 100000 in
theorem tX3_many (l : Launch) (D : va_G) (cI cZ cC : ClassId) (x : Nat) (hx16 : x < 2 ^ 16) : RdC l yX3_many wsX3_many (rmK 0) D cI cZ cC [.int (nI x)] (fun _ => True) (fun ans => ans = nI (popG 16 x)) := by
  refine RdC.of (cc := cX3_many) (maxL := 3) (ret := .int) (by decide) rfl (Nat.le_of_ble_eq_true rfl) ?_
  intro p e s m args below meth c Q ls hx hb hml hts hown hK hP hret hl
  have hl : lv_has ls 3 [(0, .int (nI x))] := hl
  refine lv_iconst (v := 0) hx hb dX3_many_0 (by decide) ?_
  refine lv_istore_n (lv' := [(1, .int 0), (0, .int (nI x))]) hx hb dX3_many_1 rfl hl (by decide) rfl (fun ls hl => ?_)
  refine lv_iload_n hx hb dX3_many_2 rfl (lv_at hl 1 rfl) ?_
  refine lv_istore_n (lv' := [(2, .int (nI x)), (1, .int 0), (0, .int (nI x))]) hx hb dX3_many_3 rfl hl (by decide) rfl (fun ls hl => ?_)
  have LOOP : ∀ (fu t y a : Nat), t < fu → y < 2 ^ t → t ≤ 16 → a + popG t y = popG 16 x → ∀ (ls : Array Slot), lv_has ls 3 [(1, .int (nI a)), (2, .int (nI y))] → W p l e (rmK 0) s m args below meth c s.heap [] 0 0 Q (F0 m 4 ls []) := by
    intro fu
    induction fu with
    | zero => intro t y a h; exact absurd h (Nat.not_lt_zero _)
    | succ fu ih =>
      intro t y a htf hy ht16 htot ls hl
      have hy31 : y < 65536 := Nat.lt_of_lt_of_le hy (pow_le16 ht16)
      have ha : a ≤ 16 := by have := popG_le 16 x; omega
      refine lv_iload_n hx hb dX3_many_4 rfl (lv_at hl 1 rfl) ?_
      refine lv_if_le (tgt := 21) hx hb dX3_many_5 (by decide) (fun c_1 => ?_) (fun c_1 => ?_)
      · refine lv_iload_n hx hb dX3_many_21 rfl (lv_at hl 0 rfl) ?_
        exact hret 22 _ _ (by have hy0 : y = 0 := Nat.le_zero.mp ((nI_leI (by omega) (by decide)).mp c_1); subst hy0; rw [popG_0] at htot; rw [← htot]; rfl) rfl dX3_many_22
      · refine lv_iload_n hx hb dX3_many_8 rfl (lv_at hl 0 rfl) ?_
        refine lv_iload_n hx hb dX3_many_9 rfl (lv_at hl 1 rfl) ?_
        refine lv_iconst (v := 1) hx hb dX3_many_10 (by decide) ?_
        refine lv_iand hx hb dX3_many_11 ?_
        refine lv_iadd hx hb dX3_many_12 ?_
        refine lv_istore_n (lv' := [(1, .int ((nI a) + ((nI y) &&& 1))), (2, .int (nI y))]) hx hb dX3_many_13 rfl hl (by decide) rfl (fun ls hl => ?_)
        refine lv_iload_n hx hb dX3_many_14 rfl (lv_at hl 1 rfl) ?_
        refine lv_iconst (v := 1) hx hb dX3_many_15 (by decide) ?_
        refine lv_ishr hx hb dX3_many_16 ?_
        refine lv_istore_n (lv' := [(2, .int ((nI y) >>> (1 &&& 31))), (1, .int ((nI a) + ((nI y) &&& 1)))]) hx hb dX3_many_17 rfl hl (by decide) rfl (fun ls hl => ?_)
        refine lv_goto (tgt := 4) hx hb dX3_many_18 (by decide) ?_
        have hy0 : ¬ y = 0 := fun h => c_1 (by rw [h]; decide)
        obtain ⟨t1, rfl⟩ : ∃ t1, t = t1 + 1 := by cases t with | zero => exact absurd (Nat.lt_one_iff.mp hy) hy0 | succ t1 => exact ⟨t1, rfl⟩
        have hy2 : y / 2 < 2 ^ t1 := by rw [Nat.pow_succ] at hy; omega
        exact ih t1 (y / 2) (a + y % 2) (by omega) hy2 (by omega) (by rw [popG] at htot; omega) ls (by rw [← nI_add, ← and1N (show y < 2 ^ 31 by omega), ← shr1N (show y < 2 ^ 31 by omega)]; exact lv_sub hl [1, 0] rfl)
  exact LOOP 17 16 x 0 (by decide) hx16 (by decide) (by omega) ls (lv_sub hl [1, 0] rfl)

set_option maxHeartbeats 4000000 in
set_option maxRecDepth 100000 in
theorem tX3_doesExplain (l : Launch) (D : va_G) (cI cZ cC : ClassId) (q : Nat → Nat) (o : Nat) (g : Nat → Nat → Int32) (n : Nat) (hn : g 0 0 = nI n) (hnb : n ≤ 16) (mm : Nat) (hm : g 26 0 = nI mm) (hmb : mm ≤ 10) (w : Int32) : RdC l yX3_doesExplain wsX3_doesExplain (rmK 0) D cI cZ cC [.ref o, .int w] (fun H => va_P D vwCl (mW cI cZ q o g) H) (fun ans => ans = bI (exb (g 12) (g 8) (orM (g 27) w mm) n = true)) := by
  refine RdC.of (cc := cX3_doesExplain) (maxL := 5) (ret := .boolean) (by decide) rfl (Nat.le_of_ble_eq_true rfl) ?_
  intro p e s m args below meth c Q ls hx hb hml hts hown hK hP hret hl
  have hl : lv_has ls 5 [(0, .ref o), (1, .int w)] := hl
  have hP : va_P D vwCl (mW cI cZ q o g) s.heap := hP
  have hinX3 : ∀ w ∈ u_ws RX3 TX3 33, w ∈ wsX3_doesExplain := (fun w h => List.mem_cons_of_mem _ (List.mem_append_right _ h))
  refine lv_iconst (v := 0) hx hb dX3_doesExplain_0 (by decide) ?_
  refine lv_istore_n (lv' := [(2, .int 0), (0, .ref o), (1, .int w)]) hx hb dX3_doesExplain_1 rfl hl (by decide) rfl (fun ls hl => ?_)
  refine lv_iconst (v := 0) hx hb dX3_doesExplain_2 (by decide) ?_
  refine lv_istore_n (lv' := [(3, .int 0), (2, .int 0), (0, .ref o), (1, .int w)]) hx hb dX3_doesExplain_3 rfl hl (by decide) rfl (fun ls hl => ?_)
  have LOOP_1 : ∀ (fu i : Nat), i ≤ mm → mm - i < fu → ∀ (ls : Array Slot), lv_has ls 5 [(0, .ref o), (1, .int w), (2, .int (orM (g 27) w i)), (3, .int (nI i))] → W p l e (rmK 0) s m args below meth c s.heap [] 0 0 Q (F0 m 4 ls []) := by
    intro fu
    induction fu with
    | zero => intro i h1 h2; exact absurd h2 (Nat.not_lt_zero _)
    | succ fu ih =>
      intro i hkn hfu  ls hl
      refine lv_iload_n hx hb dX3_doesExplain_4 rfl (lv_at hl 3 rfl) ?_
      refine lv_aload_n hx hb dX3_doesExplain_5 rfl (lv_at hl 0 rfl) ?_
      refine va_get (D := D) (ci := 3) (v := .int (g 26 0)) (C := RX3) (T := TX3) (N := 33) hx hb hts hinX3 hown hK hP 0 rfl rfl 26 (by decide) (hts (.fieldLink RX3 141 "TroubleCodesModel" "causes" "I") (mem_at 1 rfl)) (fun _ h9 => h9) rfl dX3_doesExplain_6 ?_
      refine lv_icmp_ge (tgt := 40) hx hb dX3_doesExplain_9 (by decide) (fun c_2 => ?_) (fun c_2 => ?_)
      · have ekn : mm = i := Nat.le_antisymm (kx_ge hm (by omega) (by omega) c_2) hkn
        subst ekn
        refine lv_iconst (v := 1) hx hb dX3_doesExplain_40 (by decide) ?_
        refine lv_istore_n (lv' := [(3, .int 1), (0, .ref o), (1, .int w), (2, .int (orM (g 27) w mm))]) hx hb dX3_doesExplain_41 rfl hl (by decide) rfl (fun ls hl => ?_)
        refine lv_iconst (v := 0) hx hb dX3_doesExplain_42 (by decide) ?_
        refine lv_istore (lv' := [(4, .int 0), (3, .int 1), (0, .ref o), (1, .int w), (2, .int (orM (g 27) w mm))]) hx hb dX3_doesExplain_43 hl (by decide) rfl (fun ls hl => ?_)
        have LOOP_3 : ∀ (fu k : Nat), k ≤ n → n - k < fu → ∀ (ls : Array Slot), lv_has ls 5 [(0, .ref o), (1, .int w), (2, .int (orM (g 27) w mm)), (3, .int (bI (exb (g 12) (g 8) (orM (g 27) w mm) k = true))), (4, .int (nI k))] → W p l e (rmK 0) s m args below meth c s.heap [] 0 0 Q (F0 m 45 ls []) := by
          intro fu
          induction fu with
          | zero => intro k h1 h2; exact absurd h2 (Nat.not_lt_zero _)
          | succ fu ih =>
            intro k hkn hfu  ls hl
            refine lv_iload hx hb dX3_doesExplain_45 (lv_at hl 4 rfl) ?_
            refine lv_aload_n hx hb dX3_doesExplain_47 rfl (lv_at hl 0 rfl) ?_
            refine va_get (D := D) (ci := 3) (v := .int (g 0 0)) (C := RX3) (T := TX3) (N := 33) hx hb hts hinX3 hown hK hP 0 rfl rfl 0 (by decide) (hts (.fieldLink RX3 93 "TroubleCodesModel" "checks" "I") (mem_at 3 rfl)) (fun _ h9 => h9) rfl dX3_doesExplain_48 ?_
            refine lv_icmp_ge (tgt := 114) hx hb dX3_doesExplain_51 (by decide) (fun c_4 => ?_) (fun c_4 => ?_)
            · have ekn : n = k := Nat.le_antisymm (kx_ge hn (by omega) (by omega) c_4) hkn
              subst ekn
              refine lv_iload_n hx hb dX3_doesExplain_114 rfl (lv_at hl 3 rfl) ?_
              exact hret 115 _ _ (rfl) (bI_nar _) dX3_doesExplain_115
            · have hkl : k < n := kx_lt hn (by omega) (by omega) c_4
              refine lv_iload_n hx hb dX3_doesExplain_54 rfl (lv_at hl 3 rfl) ?_
              refine lv_if_eq (tgt := 106) hx hb dX3_doesExplain_55 (by decide) (fun c_5 => ?_) (fun c_5 => ?_)
              · have c_5 := bI_eq c_5
                refine lv_iconst (v := 0) hx hb dX3_doesExplain_106 (by decide) ?_
                refine lv_istore_n (lv' := [(3, .int 0), (0, .ref o), (1, .int w), (2, .int (orM (g 27) w mm)), (4, .int (nI k))]) hx hb dX3_doesExplain_107 rfl hl (by decide) rfl (fun ls hl => ?_)
                refine lv_iinc (v := nI (k + 1)) (lv' := [(4, .int (nI (k + 1))), (3, .int 0), (0, .ref o), (1, .int w), (2, .int (orM (g 27) w mm))]) hx hb dX3_doesExplain_108 hl (k := 4) rfl (nI_1 _) (by decide) rfl (fun ls hl => ?_)
                refine lv_goto (tgt := 45) hx hb dX3_doesExplain_111 (by decide) ?_
                have q_6 : (bI (exb (g 12) (g 8) (orM (g 27) w mm) (k + 1) = true) : Int32) = 0 := by simp [exb, bI, c_4, Int32.not_le.mp c_4, c_5]
                exact ih (k + 1) (by omega) (by omega) ls (by rw [q_6]; exact lv_sub hl [2, 3, 4, 1, 0] rfl)
              · have c_5 := bI_ne c_5
                refine lv_aload_n hx hb dX3_doesExplain_58 rfl (lv_at hl 0 rfl) ?_
                refine va_get (D := D) (ci := 3) (v := .ref (q 12)) (C := RX3) (T := TX3) (N := 33) hx hb hts hinX3 hown hK hP 0 rfl rfl 12 (by decide) (hts (.fieldLink RX3 44 "TroubleCodesModel" "hasRun" "[Z") (mem_at 4 rfl)) (fun _ h9 => h9) rfl dX3_doesExplain_59 ?_
                refine lv_iload hx hb dX3_doesExplain_62 (lv_at hl 4 rfl) ?_
                refine x_zald (k := k) (f := g 12) hx hb hK hP 12 rfl (by omega) (by decide) dX3_doesExplain_64 ?_
                refine lv_if_eq (tgt := 102) hx hb dX3_doesExplain_65 (by decide) (fun c_7 => ?_) (fun c_7 => ?_)
                · refine lv_iconst (v := 1) hx hb dX3_doesExplain_102 (by decide) ?_
                  refine lv_goto (tgt := 107) hx hb dX3_doesExplain_103 (by decide) ?_
                  refine lv_istore_n (lv' := [(3, .int 1), (0, .ref o), (1, .int w), (2, .int (orM (g 27) w mm)), (4, .int (nI k))]) hx hb dX3_doesExplain_107 rfl hl (by decide) rfl (fun ls hl => ?_)
                  refine lv_iinc (v := nI (k + 1)) (lv' := [(4, .int (nI (k + 1))), (3, .int 1), (0, .ref o), (1, .int w), (2, .int (orM (g 27) w mm))]) hx hb dX3_doesExplain_108 hl (k := 4) rfl (nI_1 _) (by decide) rfl (fun ls hl => ?_)
                  refine lv_goto (tgt := 45) hx hb dX3_doesExplain_111 (by decide) ?_
                  have q_8 : (bI (exb (g 12) (g 8) (orM (g 27) w mm) (k + 1) = true) : Int32) = 1 := by simp [exb, bI, c_4, Int32.not_le.mp c_4, c_5, c_7]
                  exact ih (k + 1) (by omega) (by omega) ls (by rw [q_8]; exact lv_sub hl [2, 3, 4, 1, 0] rfl)
                · refine lv_aload_n hx hb dX3_doesExplain_68 rfl (lv_at hl 0 rfl) ?_
                  refine va_get (D := D) (ci := 3) (v := .ref (q 8)) (C := RX3) (T := TX3) (N := 33) hx hb hts hinX3 hown hK hP 0 rfl rfl 8 (by decide) (hts (.fieldLink RX3 32 "TroubleCodesModel" "code" "[I") (mem_at 5 rfl)) (fun _ h9 => h9) rfl dX3_doesExplain_69 ?_
                  refine lv_iload hx hb dX3_doesExplain_72 (lv_at hl 4 rfl) ?_
                  refine x_iald (k := k) (f := g 8) hx hb hK hP 8 rfl (by omega) (by decide) dX3_doesExplain_74 ?_
                  refine lv_iconst (v := 2) hx hb dX3_doesExplain_75 (by decide) ?_
                  refine lv_icmp_ne (tgt := 83) hx hb dX3_doesExplain_76 (by decide) (fun c_9 => ?_) (fun c_9 => ?_)
                  · refine lv_iconst (v := 0) hx hb dX3_doesExplain_83 (by decide) ?_
                    refine lv_iload_n hx hb dX3_doesExplain_84 rfl (lv_at hl 2 rfl) ?_
                    refine lv_iload hx hb dX3_doesExplain_85 (lv_at hl 4 rfl) ?_
                    refine lv_ishr hx hb dX3_doesExplain_87 ?_
                    refine lv_iconst (v := 1) hx hb dX3_doesExplain_88 (by decide) ?_
                    refine lv_iand hx hb dX3_doesExplain_89 ?_
                    refine lv_iconst (v := 1) hx hb dX3_doesExplain_90 (by decide) ?_
                    refine lv_icmp_ne (tgt := 98) hx hb dX3_doesExplain_91 (by decide) (fun c_10 => ?_) (fun c_10 => ?_)
                    · refine lv_iconst (v := 0) hx hb dX3_doesExplain_98 (by decide) ?_
                      refine lv_icmp_ne (tgt := 106) hx hb dX3_doesExplain_99 (by decide) (fun c_11 => absurd c_11 (by decide)) (fun _ => ?_)
                      refine lv_iconst (v := 1) hx hb dX3_doesExplain_102 (by decide) ?_
                      refine lv_goto (tgt := 107) hx hb dX3_doesExplain_103 (by decide) ?_
                      refine lv_istore_n (lv' := [(3, .int 1), (0, .ref o), (1, .int w), (2, .int (orM (g 27) w mm)), (4, .int (nI k))]) hx hb dX3_doesExplain_107 rfl hl (by decide) rfl (fun ls hl => ?_)
                      refine lv_iinc (v := nI (k + 1)) (lv' := [(4, .int (nI (k + 1))), (3, .int 1), (0, .ref o), (1, .int w), (2, .int (orM (g 27) w mm))]) hx hb dX3_doesExplain_108 hl (k := 4) rfl (nI_1 _) (by decide) rfl (fun ls hl => ?_)
                      refine lv_goto (tgt := 45) hx hb dX3_doesExplain_111 (by decide) ?_
                      have q_12 : (bI (exb (g 12) (g 8) (orM (g 27) w mm) (k + 1) = true) : Int32) = 1 := by simp [exb, bI, c_4, Int32.not_le.mp c_4, c_5, c_7, c_9, c_10]
                      exact ih (k + 1) (by omega) (by omega) ls (by rw [q_12]; exact lv_sub hl [2, 3, 4, 1, 0] rfl)
                    · refine lv_iconst (v := 1) hx hb dX3_doesExplain_94 (by decide) ?_
                      refine lv_goto (tgt := 99) hx hb dX3_doesExplain_95 (by decide) ?_
                      refine lv_icmp_ne (tgt := 106) hx hb dX3_doesExplain_99 (by decide) (fun _ => ?_) (fun c_13 => absurd c_13 (by decide))
                      refine lv_iconst (v := 0) hx hb dX3_doesExplain_106 (by decide) ?_
                      refine lv_istore_n (lv' := [(3, .int 0), (0, .ref o), (1, .int w), (2, .int (orM (g 27) w mm)), (4, .int (nI k))]) hx hb dX3_doesExplain_107 rfl hl (by decide) rfl (fun ls hl => ?_)
                      refine lv_iinc (v := nI (k + 1)) (lv' := [(4, .int (nI (k + 1))), (3, .int 0), (0, .ref o), (1, .int w), (2, .int (orM (g 27) w mm))]) hx hb dX3_doesExplain_108 hl (k := 4) rfl (nI_1 _) (by decide) rfl (fun ls hl => ?_)
                      refine lv_goto (tgt := 45) hx hb dX3_doesExplain_111 (by decide) ?_
                      have q_14 : (bI (exb (g 12) (g 8) (orM (g 27) w mm) (k + 1) = true) : Int32) = 0 := by simp [exb, bI, c_4, Int32.not_le.mp c_4, c_5, c_7, c_9, c_10]
                      exact ih (k + 1) (by omega) (by omega) ls (by rw [q_14]; exact lv_sub hl [2, 3, 4, 1, 0] rfl)
                  · refine lv_iconst (v := 1) hx hb dX3_doesExplain_79 (by decide) ?_
                    refine lv_goto (tgt := 84) hx hb dX3_doesExplain_80 (by decide) ?_
                    refine lv_iload_n hx hb dX3_doesExplain_84 rfl (lv_at hl 2 rfl) ?_
                    refine lv_iload hx hb dX3_doesExplain_85 (lv_at hl 4 rfl) ?_
                    refine lv_ishr hx hb dX3_doesExplain_87 ?_
                    refine lv_iconst (v := 1) hx hb dX3_doesExplain_88 (by decide) ?_
                    refine lv_iand hx hb dX3_doesExplain_89 ?_
                    refine lv_iconst (v := 1) hx hb dX3_doesExplain_90 (by decide) ?_
                    refine lv_icmp_ne (tgt := 98) hx hb dX3_doesExplain_91 (by decide) (fun c_15 => ?_) (fun c_15 => ?_)
                    · refine lv_iconst (v := 0) hx hb dX3_doesExplain_98 (by decide) ?_
                      refine lv_icmp_ne (tgt := 106) hx hb dX3_doesExplain_99 (by decide) (fun _ => ?_) (fun c_16 => absurd c_16 (by decide))
                      refine lv_iconst (v := 0) hx hb dX3_doesExplain_106 (by decide) ?_
                      refine lv_istore_n (lv' := [(3, .int 0), (0, .ref o), (1, .int w), (2, .int (orM (g 27) w mm)), (4, .int (nI k))]) hx hb dX3_doesExplain_107 rfl hl (by decide) rfl (fun ls hl => ?_)
                      refine lv_iinc (v := nI (k + 1)) (lv' := [(4, .int (nI (k + 1))), (3, .int 0), (0, .ref o), (1, .int w), (2, .int (orM (g 27) w mm))]) hx hb dX3_doesExplain_108 hl (k := 4) rfl (nI_1 _) (by decide) rfl (fun ls hl => ?_)
                      refine lv_goto (tgt := 45) hx hb dX3_doesExplain_111 (by decide) ?_
                      have q_17 : (bI (exb (g 12) (g 8) (orM (g 27) w mm) (k + 1) = true) : Int32) = 0 := by simp [exb, bI, c_4, Int32.not_le.mp c_4, c_5, c_7, c_9, c_15]
                      exact ih (k + 1) (by omega) (by omega) ls (by rw [q_17]; exact lv_sub hl [2, 3, 4, 1, 0] rfl)
                    · refine lv_iconst (v := 1) hx hb dX3_doesExplain_94 (by decide) ?_
                      refine lv_goto (tgt := 99) hx hb dX3_doesExplain_95 (by decide) ?_
                      refine lv_icmp_ne (tgt := 106) hx hb dX3_doesExplain_99 (by decide) (fun c_18 => absurd c_18 (by decide)) (fun _ => ?_)
                      refine lv_iconst (v := 1) hx hb dX3_doesExplain_102 (by decide) ?_
                      refine lv_goto (tgt := 107) hx hb dX3_doesExplain_103 (by decide) ?_
                      refine lv_istore_n (lv' := [(3, .int 1), (0, .ref o), (1, .int w), (2, .int (orM (g 27) w mm)), (4, .int (nI k))]) hx hb dX3_doesExplain_107 rfl hl (by decide) rfl (fun ls hl => ?_)
                      refine lv_iinc (v := nI (k + 1)) (lv' := [(4, .int (nI (k + 1))), (3, .int 1), (0, .ref o), (1, .int w), (2, .int (orM (g 27) w mm))]) hx hb dX3_doesExplain_108 hl (k := 4) rfl (nI_1 _) (by decide) rfl (fun ls hl => ?_)
                      refine lv_goto (tgt := 45) hx hb dX3_doesExplain_111 (by decide) ?_
                      have q_19 : (bI (exb (g 12) (g 8) (orM (g 27) w mm) (k + 1) = true) : Int32) = 1 := by simp [exb, bI, c_4, Int32.not_le.mp c_4, c_5, c_7, c_9, c_15]
                      exact ih (k + 1) (by omega) (by omega) ls (by rw [q_19]; exact lv_sub hl [2, 3, 4, 1, 0] rfl)
        have q_20 : (bI (exb (g 12) (g 8) (orM (g 27) w mm) 0 = true) : Int32) = 1 := by first | rfl | simp [exb, bI]
        have q_21 : (nI 0 : Int32) = 0 := by first | rfl | simp [exb, bI]
        exact LOOP_3 (n - 0 + 1) 0 (Nat.zero_le _) (Nat.lt_succ_self _) ls (by rw [q_20, q_21]; exact lv_sub hl [2, 3, 4, 1, 0] rfl)
      · have hil : i < mm := kx_lt hm (by omega) (by omega) c_2
        refine lv_iload_n hx hb dX3_doesExplain_12 rfl (lv_at hl 2 rfl) ?_
        refine lv_iload_n hx hb dX3_doesExplain_13 rfl (lv_at hl 1 rfl) ?_
        refine lv_iload_n hx hb dX3_doesExplain_14 rfl (lv_at hl 3 rfl) ?_
        refine lv_ishr hx hb dX3_doesExplain_15 ?_
        refine lv_iconst (v := 1) hx hb dX3_doesExplain_16 (by decide) ?_
        refine lv_iand hx hb dX3_doesExplain_17 ?_
        refine lv_iconst (v := 1) hx hb dX3_doesExplain_18 (by decide) ?_
        refine lv_icmp_ne (tgt := 31) hx hb dX3_doesExplain_19 (by decide) (fun c_22 => ?_) (fun c_22 => ?_)
        · refine lv_iconst (v := 0) hx hb dX3_doesExplain_31 (by decide) ?_
          refine lv_ior hx hb dX3_doesExplain_32 ?_
          refine lv_istore_n (lv' := [(2, .int ((orM (g 27) w i) ||| 0)), (0, .ref o), (1, .int w), (3, .int (nI i))]) hx hb dX3_doesExplain_33 rfl hl (by decide) rfl (fun ls hl => ?_)
          refine lv_iinc (v := nI (i + 1)) (lv' := [(3, .int (nI (i + 1))), (2, .int ((orM (g 27) w i) ||| 0)), (0, .ref o), (1, .int w)]) hx hb dX3_doesExplain_34 hl (k := 3) rfl (nI_1 _) (by decide) rfl (fun ls hl => ?_)
          refine lv_goto (tgt := 4) hx hb dX3_doesExplain_37 (by decide) ?_
          have q_23 : (orM (g 27) w (i + 1) : Int32) = (orM (g 27) w i) ||| 0 := by rw [orM, if_neg c_22]
          exact ih (i + 1) (by omega) (by omega) ls (by rw [q_23]; exact lv_sub hl [2, 3, 1, 0] rfl)
        · refine lv_aload_n hx hb dX3_doesExplain_22 rfl (lv_at hl 0 rfl) ?_
          refine va_get (D := D) (ci := 3) (v := .ref (q 27)) (C := RX3) (T := TX3) (N := 33) hx hb hts hinX3 hown hK hP 0 rfl rfl 27 (by decide) (hts (.fieldLink RX3 78 "TroubleCodesModel" "makes" "[I") (mem_at 2 rfl)) (fun _ h9 => h9) rfl dX3_doesExplain_23 ?_
          refine lv_iload_n hx hb dX3_doesExplain_26 rfl (lv_at hl 3 rfl) ?_
          refine x_iald (k := i) (f := g 27) hx hb hK hP 22 rfl (by omega) (by decide) dX3_doesExplain_27 ?_
          refine lv_goto (tgt := 32) hx hb dX3_doesExplain_28 (by decide) ?_
          refine lv_ior hx hb dX3_doesExplain_32 ?_
          refine lv_istore_n (lv' := [(2, .int ((orM (g 27) w i) ||| (g 27 i))), (0, .ref o), (1, .int w), (3, .int (nI i))]) hx hb dX3_doesExplain_33 rfl hl (by decide) rfl (fun ls hl => ?_)
          refine lv_iinc (v := nI (i + 1)) (lv' := [(3, .int (nI (i + 1))), (2, .int ((orM (g 27) w i) ||| (g 27 i))), (0, .ref o), (1, .int w)]) hx hb dX3_doesExplain_34 hl (k := 3) rfl (nI_1 _) (by decide) rfl (fun ls hl => ?_)
          refine lv_goto (tgt := 4) hx hb dX3_doesExplain_37 (by decide) ?_
          have q_24 : (orM (g 27) w (i + 1) : Int32) = (orM (g 27) w i) ||| (g 27 i) := by rw [orM, if_pos c_22]
          exact ih (i + 1) (by omega) (by omega) ls (by rw [q_24]; exact lv_sub hl [2, 3, 1, 0] rfl)
  have q_25 : (orM (g 27) w 0 : Int32) = 0 := by rfl
  have q_26 : (nI 0 : Int32) = 0 := by rfl
  exact LOOP_1 (mm - 0 + 1) 0 (Nat.zero_le _) (Nat.lt_succ_self _) ls (by rw [q_25, q_26]; exact lv_sub hl [2, 3, 1, 0] rfl)

def fX3_explains (g : Nat → Nat → Int32) (n mm : Nat) (x : Int32) : Int32 := if 0 ≤ x ∧ x ≤ ((1 <<< ((g 26 0) &&& 31)) - 1) then (if exb (g 12) (g 8) (orM (g 27) x mm) n = true then 1 else 0) else (-2)
set_option maxHeartbeats 4000000 in
set_option maxRecDepth 100000 in
theorem tX3_explains (l : Launch) (D : va_G) (cI cZ cC : ClassId) (q : Nat → Nat) (o : Nat) (g : Nat → Nat → Int32) (n : Nat) (hn : g 0 0 = nI n) (hnb : n ≤ 16) (mm : Nat) (hm : g 26 0 = nI mm) (hmb : mm ≤ 10) (x : Int32) : RdC l yX3_explains wsX3_explains (rmK 1) D cI cZ cC [.ref o, .int x] (fun H => va_P D vwCl (mW cI cZ q o g) H) (fun ans => ans = fX3_explains g n mm x) := by
  refine RdC.of (cc := cX3_explains) (maxL := 2) (ret := .int) (by decide) rfl (Nat.le_of_ble_eq_true rfl) ?_
  intro p e s m args below meth c Q ls hx hb hml hts hown hK hP hret hl
  have hl : lv_has ls 2 [(0, .ref o), (1, .int x)] := hl
  have hP : va_P D vwCl (mW cI cZ q o g) s.heap := hP
  have hinX3 : ∀ w ∈ u_ws RX3 TX3 33, w ∈ wsX3_explains := (fun w h => List.mem_cons_of_mem _ (List.mem_append_right _ h))
  refine lv_iload_n hx hb dX3_explains_0 rfl (lv_at hl 1 rfl) ?_
  refine lv_iconst (v := 0) hx hb dX3_explains_1 (by decide) ?_
  refine lv_iconst (v := 1) hx hb dX3_explains_2 (by decide) ?_
  refine lv_aload_n hx hb dX3_explains_3 rfl (lv_at hl 0 rfl) ?_
  refine va_get (D := D) (ci := 3) (v := .int (g 26 0)) (C := RX3) (T := TX3) (N := 33) hx hb hts hinX3 hown hK hP 0 rfl rfl 26 (by decide) (hts (.fieldLink RX3 141 "TroubleCodesModel" "causes" "I") (mem_at 1 rfl)) (fun _ h9 => h9) rfl dX3_explains_4 ?_
  refine lv_ishl hx hb dX3_explains_7 ?_
  refine lv_iconst (v := 1) hx hb dX3_explains_8 (by decide) ?_
  refine lv_isub hx hb dX3_explains_9 ?_
  refine x_rdS (As := [.int x, .int 0, .int ((1 <<< ((g 26 0) &&& 31)) - 1)]) (rest := []) ⟨hx, hb, hml, hown, hts⟩ (tX3_in l D cI cZ cC x 0 ((1 <<< ((g 26 0) &&& 31)) - 1)) (va_cwS 3 hts gX3_explains_X3_in rfl rfl rfl (by decide +kernel) ⟨Nat.le_of_ble_eq_true rfl, Nat.le_of_ble_eq_true rfl⟩) hK trivial rfl hl.1 rfl (Nat.le_of_ble_eq_true rfl) dX3_explains_10 ⟨Nat.le_of_ble_eq_true rfl, Nat.le_of_ble_eq_true rfl⟩ (fun r_1 er_1 => ?_)
  have er_1 : r_1 = bI (0 ≤ x ∧ x ≤ ((1 <<< ((g 26 0) &&& 31)) - 1)) := er_1
  subst er_1
  refine lv_if_ne (tgt := 21) hx hb dX3_explains_13 (by decide) (fun c_2 => ?_) (fun c_2 => ?_)
  · have c_2 := bI_ne c_2
    refine lv_aload_n hx hb dX3_explains_21 rfl (lv_at hl 0 rfl) ?_
    refine lv_iload_n hx hb dX3_explains_22 rfl (lv_at hl 1 rfl) ?_
    refine x_rdV (As := [.int x]) (rest := []) ⟨hx, hb, hml, hown, hts⟩ (tX3_doesExplain l D cI cZ cC q o g n hn hnb mm hm hmb x) (cwV 1 hts gX3_explains_X3_doesExplain rfl rfl rfl (by decide +kernel) ⟨Nat.le_of_ble_eq_true rfl, Nat.le_of_ble_eq_true rfl⟩) hK (x_recv (ci := 3) hK hP rfl (q0 := 0) rfl) hP rfl hl.1 rfl (Nat.le_of_ble_eq_true rfl) dX3_explains_23 ⟨Nat.le_of_ble_eq_true rfl, Nat.le_of_ble_eq_true rfl⟩ (fun r_3 er_3 => ?_)
    have er_3 : r_3 = bI (exb (g 12) (g 8) (orM (g 27) x mm) n = true) := er_3
    subst er_3
    refine lv_if_eq (tgt := 33) hx hb dX3_explains_26 (by decide) (fun c_4 => ?_) (fun c_4 => ?_)
    · have c_4 := bI_eq c_4
      refine lv_iconst (v := 0) hx hb dX3_explains_33 (by decide) ?_
      exact hret 34 _ _ (by rw [fX3_explains]; rw [if_pos c_2, if_neg c_4]) rfl dX3_explains_34
    · have c_4 := bI_ne c_4
      refine lv_iconst (v := 1) hx hb dX3_explains_29 (by decide) ?_
      refine lv_goto (tgt := 34) hx hb dX3_explains_30 (by decide) ?_
      exact hret 34 _ _ (by rw [fX3_explains]; rw [if_pos c_2, if_pos c_4]) rfl dX3_explains_34
  · have c_2 := bI_eq c_2
    refine lv_bipush (v := (-2)) hx hb dX3_explains_16 (by decide) ?_
    refine lv_goto (tgt := 34) hx hb dX3_explains_18 (by decide) ?_
    exact hret 34 _ _ (by rw [fX3_explains]; rw [if_neg c_2]) rfl dX3_explains_34

def fX3_findLeast (g : Nat → Nat → Int32) (n mm : Nat) : Nat → Nat → Int32 := va_up (va_up g 29 (fun _ => nI (flF (exE g n mm) (g 30) (2 ^ mm)).1)) 30 (flF (exE g n mm) (g 30) (2 ^ mm)).2.2

set_option maxHeartbeats 4000000 in
set_option maxRecDepth 100000 in
theorem tX3_findLeast (l : Launch) (D : va_G) (cI cZ cC : ClassId) (q : Nat → Nat) (o : Nat) (g : Nat → Nat → Int32) (n : Nat) (hn : g 0 0 = nI n) (hnb : n ≤ 16) (mm : Nat) (hm : g 26 0 = nI mm) (hmb : mm ≤ 10) : WrV l yX3_findLeast wsX3_findLeast (rmK 1) D cI cZ cC [.ref o] (mW cI cZ q o g) (mW cI cZ q o (fX3_findLeast g n mm)) := by
  refine WrV.of (cc := cX3_findLeast) (maxL := 3) (by decide) rfl (Nat.le_of_ble_eq_true rfl) ?_
  intro p e s m args below meth c Q A ls hx hb hml hts hown hK hP hD hS hA hret hl
  have hl : lv_has ls 3 [(0, .ref o)] := hl
  have hinX3 : ∀ w ∈ u_ws RX3 TX3 33, w ∈ wsX3_findLeast := (fun w h => List.mem_cons_of_mem _ (List.mem_append_right _ h))
  refine lv_aload_n hx hb dX3_findLeast_0 rfl (lv_at hl 0 rfl) ?_
  refine lv_iconst (v := 0) hx hb dX3_findLeast_1 (by decide) ?_
  refine va_put (D := D) (ci := 3) (v := .int 0) (ty := .int) (C := RX3) (T := TX3) (N := 33) hx hb hts hinX3 tyX3 tyX3_ok nmX3 hown hK hP hD hS 0 rfl rfl 29 (by decide) (hts (.fieldLink RX3 147 "TroubleCodesModel" "listed" "I") (mem_at 1 rfl)) (fun _ h9 => h9) rfl (by decide +kernel) rfl rfl (Nat.le_of_ble_eq_true rfl) dX3_findLeast_2 (fun H locs hP hD hS => ?_)
  have hP : va_P D vwCl (mW cI cZ q o (va_up g 29 (fun _ => 0))) H := hP
  have hD : va_D A (mW cI cZ q o (va_up g 29 (fun _ => 0))) := hD
  refine lv_iconst (v := 0) hx hb dX3_findLeast_5 (by decide) ?_
  refine lv_istore_n (lv' := [(1, .int 0), (0, .ref o)]) hx hb dX3_findLeast_6 rfl hl (by decide) rfl (fun ls hl => ?_)
  refine lv_iconst (v := 0) hx hb dX3_findLeast_7 (by decide) ?_
  refine lv_istore_n (lv' := [(2, .int 0), (1, .int 0), (0, .ref o)]) hx hb dX3_findLeast_8 rfl hl (by decide) rfl (fun ls hl => ?_)
  have LOOP_1 : ∀ (fu z : Nat), z ≤ 2 ^ mm → 2 ^ mm - z < fu → ∀ (H : Heap) (locs : List Loc) (ls : Array Slot), va_P D vwCl (mW cI cZ q o (va_up (va_up g 29 (fun _ => nI (flF (exE g n mm) (g 30) z).1)) 30 ((flF (exE g n mm) (g 30) z).2.2))) H → va_D A (mW cI cZ q o (va_up (va_up g 29 (fun _ => nI (flF (exE g n mm) (g 30) z).1)) 30 ((flF (exE g n mm) (g 30) z).2.2))) → va_S A s.heap H locs → lv_has ls 3 [(0, .ref o), (1, .int (nI (flF (exE g n mm) (g 30) z).2.1)), (2, .int (nI z))] → W p l e (rmK 1) s m args below meth c H locs 0 0 Q (F0 m 9 ls []) := by
    intro fu
    induction fu with
    | zero => intro z h1 h2; exact absurd h2 (Nat.not_lt_zero _)
    | succ fu ih =>
      intro z hkn hfu  H locs ls hP hD hS hl
      refine lv_iload_n hx hb dX3_findLeast_9 rfl (lv_at hl 2 rfl) ?_
      refine lv_iconst (v := 1) hx hb dX3_findLeast_10 (by decide) ?_
      refine lv_aload_n hx hb dX3_findLeast_11 rfl (lv_at hl 0 rfl) ?_
      refine va_get (D := D) (ci := 3) (v := .int (g 26 0)) (C := RX3) (T := TX3) (N := 33) hx hb hts hinX3 hown hK hP 0 rfl rfl 26 (by decide) (hts (.fieldLink RX3 141 "TroubleCodesModel" "causes" "I") (mem_at 2 rfl)) (fun _ h9 => h9) rfl dX3_findLeast_12 ?_
      refine lv_ishl hx hb dX3_findLeast_15 ?_
      rw [shl1x hm (by omega)]
      refine lv_icmp_ge (tgt := 109) hx hb dX3_findLeast_16 (by decide) (fun c_2 => ?_) (fun c_2 => ?_)
      · have ekn : 2 ^ mm = z := Nat.le_antisymm (kx_ge (x := nI (2 ^ mm)) rfl (by have := pow_le10 hmb; omega) (by have := pow_le10 hmb; omega) c_2) hkn
        subst ekn
        exact hret 109 _ _ _ hP hD hS dX3_findLeast_109
      · have hzl : z < 2 ^ mm := kx_lt (x := nI (2 ^ mm)) rfl (by have := pow_le10 hmb; omega) (by have := pow_le10 hmb; omega) c_2
        obtain ⟨L, few, li, hs⟩ : ∃ L few li, flF (exE g n mm) (g 30) z = (L, few, li) := ⟨_, _, _, rfl⟩
        have hLb : L ≤ 10 ∧ few ≤ 16 := by have := flF_b (exE g n mm) (g 30) z; rw [hs] at this; exact this
        have hpz := popG_le 16 z
        have hz16 : z < 2 ^ 16 := by have := pow_le10 hmb; omega
        rw [hs] at hP hD hl
        have hP : va_P D vwCl (mW cI cZ q o (va_up (va_up g 29 (fun _ => nI L)) 30 li)) H := hP
        have hD : va_D A (mW cI cZ q o (va_up (va_up g 29 (fun _ => nI L)) 30 li)) := hD
        have hl : lv_has ls 3 [(0, .ref o), (1, .int (nI few)), (2, .int (nI z))] := hl
        refine lv_aload_n hx hb dX3_findLeast_19 rfl (lv_at hl 0 rfl) ?_
        refine lv_iload_n hx hb dX3_findLeast_20 rfl (lv_at hl 2 rfl) ?_
        refine x_rdV (As := [.int (nI z)]) (rest := []) ⟨hx, hb, hml, hown, hts⟩ (tX3_doesExplain l D cI cZ cC q o (va_up (va_up g 29 (fun _ => nI L)) 30 li) n hn hnb mm hm hmb (nI z)) (cwV 1 hts gX3_findLeast_X3_doesExplain rfl rfl rfl (by decide +kernel) ⟨Nat.le_of_ble_eq_true rfl, Nat.le_of_ble_eq_true rfl⟩) hK (x_recv (ci := 3) hK hP rfl (q0 := 0) rfl) hP rfl hl.1 rfl (Nat.le_of_ble_eq_true rfl) dX3_findLeast_21 ⟨Nat.le_of_ble_eq_true rfl, Nat.le_of_ble_eq_true rfl⟩ (fun r_3 er_3 => ?_)
        have er_3 : r_3 = bI (exb (g 12) (g 8) (orM (g 27) (nI z) mm) n = true) := er_3
        subst er_3
        refine lv_if_eq (tgt := 103) hx hb dX3_findLeast_24 (by decide) (fun c_4 => ?_) (fun c_4 => ?_)
        · have c_4 := bI_eq c_4
          refine lv_iinc (v := nI (z + 1)) (lv' := [(2, .int (nI (z + 1))), (0, .ref o), (1, .int (nI few))]) hx hb dX3_findLeast_103 hl (k := 2) rfl (nI_1 _) (by decide) rfl (fun ls hl => ?_)
          refine lv_goto (tgt := 9) hx hb dX3_findLeast_106 (by decide) ?_
          have fhs_5_0 := c_4
          have hs_5 : flF (exE g n mm) (g 30) (z + 1) = (L, few, li) := by
            have hE : exE g n mm z = false := by simpa [exE] using c_4
            rw [flF, hs]; simp only [hE]
            first
              | (simp []; done)
              | (repeat' split) <;> first | rfl | (exfalso; simp at *; omega) | omega
          have q_6 : va_up (va_up g 29 (fun _ => nI (flF (exE g n mm) (g 30) (z + 1)).1)) 30 ((flF (exE g n mm) (g 30) (z + 1)).2.2) = va_up (va_up g 29 (fun _ => nI L)) 30 li := by rw [hs_5]
          exact ih (z + 1) (by omega) (by omega) H locs ls (by rw [q_6]; exact hP) (by rw [q_6]; exact hD) hS (by rw [hs_5]; exact lv_sub hl [1, 2, 0] rfl)
        · have c_4 := bI_ne c_4
          refine lv_aload_n hx hb dX3_findLeast_27 rfl (lv_at hl 0 rfl) ?_
          refine va_get (D := D) (ci := 3) (v := .int (nI L)) (C := RX3) (T := TX3) (N := 33) hx hb hts hinX3 hown hK hP 0 rfl rfl 29 (by decide) (hts (.fieldLink RX3 147 "TroubleCodesModel" "listed" "I") (mem_at 1 rfl)) (fun _ h9 => h9) rfl dX3_findLeast_28 ?_
          refine lv_if_eq (tgt := 42) hx hb dX3_findLeast_31 (by decide) (fun c_7 => ?_) (fun c_7 => ?_)
          · refine lv_aload_n hx hb dX3_findLeast_42 rfl (lv_at hl 0 rfl) ?_
            refine lv_aload_n hx hb dX3_findLeast_43 rfl (lv_at hl 0 rfl) ?_
            refine va_get (D := D) (ci := 3) (v := .int (nI L)) (C := RX3) (T := TX3) (N := 33) hx hb hts hinX3 hown hK hP 0 rfl rfl 29 (by decide) (hts (.fieldLink RX3 147 "TroubleCodesModel" "listed" "I") (mem_at 1 rfl)) (fun _ h9 => h9) rfl dX3_findLeast_44 ?_
            refine lv_if_le (tgt := 62) hx hb dX3_findLeast_47 (by decide) (fun c_8 => ?_) (fun c_8 => ?_)
            · refine lv_aload_n hx hb dX3_findLeast_62 rfl (lv_at hl 0 rfl) ?_
              refine va_get (D := D) (ci := 3) (v := .int (nI L)) (C := RX3) (T := TX3) (N := 33) hx hb hts hinX3 hown hK hP 0 rfl rfl 29 (by decide) (hts (.fieldLink RX3 147 "TroubleCodesModel" "listed" "I") (mem_at 1 rfl)) (fun _ h9 => h9) rfl dX3_findLeast_63 ?_
              refine va_put (D := D) (ci := 3) (v := .int (nI L)) (ty := .int) (C := RX3) (T := TX3) (N := 33) hx hb hts hinX3 tyX3 tyX3_ok nmX3 hown hK hP hD hS 0 rfl rfl 29 (by decide) (hts (.fieldLink RX3 147 "TroubleCodesModel" "listed" "I") (mem_at 1 rfl)) (fun _ h9 => h9) rfl (by decide +kernel) rfl rfl (Nat.le_of_ble_eq_true rfl) dX3_findLeast_66 (fun H locs hP hD hS => ?_)
              have hP : va_P D vwCl (mW cI cZ q o (va_up (va_up g 29 (fun _ => nI L)) 30 li)) H := hP
              have hD : va_D A (mW cI cZ q o (va_up (va_up g 29 (fun _ => nI L)) 30 li)) := hD
              refine lv_iload_n hx hb dX3_findLeast_69 rfl (lv_at hl 2 rfl) ?_
              refine x_rdS (As := [.int (nI z)]) (rest := []) ⟨hx, hb, hml, hown, hts⟩ (tX3_many l D cI cZ cC z hz16) (va_cwS 1 hts gX3_findLeast_X3_many rfl rfl rfl (by decide +kernel) ⟨Nat.le_of_ble_eq_true rfl, Nat.le_of_ble_eq_true rfl⟩) hK trivial rfl hl.1 rfl (Nat.le_of_ble_eq_true rfl) dX3_findLeast_70 ⟨Nat.le_of_ble_eq_true rfl, Nat.le_of_ble_eq_true rfl⟩ (fun r_9 er_9 => ?_)
              have er_9 : r_9 = nI (popG 16 z) := er_9
              subst er_9
              refine lv_istore_n (lv' := [(1, .int (nI (popG 16 z))), (0, .ref o), (2, .int (nI z))]) hx hb dX3_findLeast_73 rfl hl (by decide) rfl (fun ls hl => ?_)
              refine lv_aload_n hx hb dX3_findLeast_74 rfl (lv_at hl 1 rfl) ?_
              refine va_get (D := D) (ci := 3) (v := .int (nI L)) (C := RX3) (T := TX3) (N := 33) hx hb hts hinX3 hown hK hP 0 rfl rfl 29 (by decide) (hts (.fieldLink RX3 147 "TroubleCodesModel" "listed" "I") (mem_at 1 rfl)) (fun _ h9 => h9) rfl dX3_findLeast_75 ?_
              refine lv_bipush (v := 10) hx hb dX3_findLeast_78 (by decide) ?_
              refine lv_icmp_ge (tgt := 103) hx hb dX3_findLeast_80 (by decide) (fun c_10 => ?_) (fun c_10 => ?_)
              · refine lv_iinc (v := nI (z + 1)) (lv' := [(2, .int (nI (z + 1))), (1, .int (nI (popG 16 z))), (0, .ref o)]) hx hb dX3_findLeast_103 hl (k := 2) rfl (nI_1 _) (by decide) rfl (fun ls hl => ?_)
                refine lv_goto (tgt := 9) hx hb dX3_findLeast_106 (by decide) ?_
                have fhs_11_0 := c_4
                have fhs_11_1 := (show L = 0 from (nI_eq (a := L) (b := 0) (by omega) (by decide)).mp c_7)
                have fhs_11_2 := (show L = 0 from Nat.le_zero.mp ((nI_leI (a := L) (b := 0) (by omega) (by decide)).mp c_8))
                have fhs_11_3 := (show 10 ≤ L from (nI_leI (a := 10) (by decide) (by omega)).mp c_10)
                have hs_11 : flF (exE g n mm) (g 30) (z + 1) = (L, (popG 16 z), li) := by
                  have hE : exE g n mm z = true := c_4
                  rw [flF, hs]; simp only [hE]
                  first
                    | (simp [fhs_11_1, fhs_11_2, fhs_11_3]; done)
                    | (repeat' split) <;> first | rfl | (exfalso; simp at *; omega) | omega
                have q_12 : va_up (va_up g 29 (fun _ => nI (flF (exE g n mm) (g 30) (z + 1)).1)) 30 ((flF (exE g n mm) (g 30) (z + 1)).2.2) = va_up (va_up g 29 (fun _ => nI L)) 30 li := by rw [hs_11]
                exact ih (z + 1) (by omega) (by omega) H locs ls (by rw [q_12]; exact hP) (by rw [q_12]; exact hD) hS (by rw [hs_11]; exact lv_sub hl [2, 1, 0] rfl)
              · have hL9 : ¬ 10 ≤ L := fun h => c_10 ((nI_leI (a := 10) (by decide) (by omega)).mpr h)
                refine lv_aload_n hx hb dX3_findLeast_83 rfl (lv_at hl 1 rfl) ?_
                refine va_get (D := D) (ci := 3) (v := .ref (q 30)) (C := RX3) (T := TX3) (N := 33) hx hb hts hinX3 hown hK hP 0 rfl rfl 30 (by decide) (hts (.fieldLink RX3 84 "TroubleCodesModel" "list" "[I") (mem_at 3 rfl)) (fun _ h9 => h9) rfl dX3_findLeast_84 ?_
                refine lv_aload_n hx hb dX3_findLeast_87 rfl (lv_at hl 1 rfl) ?_
                refine va_get (D := D) (ci := 3) (v := .int (nI L)) (C := RX3) (T := TX3) (N := 33) hx hb hts hinX3 hown hK hP 0 rfl rfl 29 (by decide) (hts (.fieldLink RX3 147 "TroubleCodesModel" "listed" "I") (mem_at 1 rfl)) (fun _ h9 => h9) rfl dX3_findLeast_88 ?_
                refine lv_iload_n hx hb dX3_findLeast_91 rfl (lv_at hl 2 rfl) ?_
                refine x_iast (k := L) (f := li) (x := nI z) hx hb hK hP hD hS 24 rfl (by omega) (by decide) dX3_findLeast_92 (fun H locs hP hD hS => ?_)
                have hP : va_P D vwCl (mW cI cZ q o (va_up (va_up g 29 (fun _ => nI L)) 30 (upd li L (nI z)))) H := hP
                have hD : va_D A (mW cI cZ q o (va_up (va_up g 29 (fun _ => nI L)) 30 (upd li L (nI z)))) := hD
                refine lv_aload_n hx hb dX3_findLeast_93 rfl (lv_at hl 1 rfl) ?_
                refine lv_dup hx hb dX3_findLeast_94 rfl ?_
                refine va_get (D := D) (ci := 3) (v := .int (nI L)) (C := RX3) (T := TX3) (N := 33) hx hb hts hinX3 hown hK hP 0 rfl rfl 29 (by decide) (hts (.fieldLink RX3 147 "TroubleCodesModel" "listed" "I") (mem_at 1 rfl)) (fun _ h9 => h9) rfl dX3_findLeast_95 ?_
                refine lv_iconst (v := 1) hx hb dX3_findLeast_98 (by decide) ?_
                refine lv_iadd hx hb dX3_findLeast_99 ?_
                rw [nI_1]
                refine va_put (D := D) (ci := 3) (v := .int (nI (L + 1))) (ty := .int) (C := RX3) (T := TX3) (N := 33) hx hb hts hinX3 tyX3 tyX3_ok nmX3 hown hK hP hD hS 0 rfl rfl 29 (by decide) (hts (.fieldLink RX3 147 "TroubleCodesModel" "listed" "I") (mem_at 1 rfl)) (fun _ h9 => h9) rfl (by decide +kernel) rfl rfl (Nat.le_of_ble_eq_true rfl) dX3_findLeast_100 (fun H locs hP hD hS => ?_)
                have hP : va_P D vwCl (mW cI cZ q o (va_up (va_up g 29 (fun _ => nI (L + 1))) 30 (upd li L (nI z)))) H := hP
                have hD : va_D A (mW cI cZ q o (va_up (va_up g 29 (fun _ => nI (L + 1))) 30 (upd li L (nI z)))) := hD
                refine lv_iinc (v := nI (z + 1)) (lv' := [(2, .int (nI (z + 1))), (1, .int (nI (popG 16 z))), (0, .ref o)]) hx hb dX3_findLeast_103 hl (k := 2) rfl (nI_1 _) (by decide) rfl (fun ls hl => ?_)
                refine lv_goto (tgt := 9) hx hb dX3_findLeast_106 (by decide) ?_
                have fhs_13_0 := c_4
                have fhs_13_1 := (show L = 0 from (nI_eq (a := L) (b := 0) (by omega) (by decide)).mp c_7)
                have fhs_13_2 := (show L = 0 from Nat.le_zero.mp ((nI_leI (a := L) (b := 0) (by omega) (by decide)).mp c_8))
                have fhs_13_3 := (show ¬ 10 ≤ L from fun h => c_10 ((nI_leI (a := 10) (by decide) (by omega)).mpr h))
                have hs_13 : flF (exE g n mm) (g 30) (z + 1) = ((L + 1), (popG 16 z), upd li L (nI z)) := by
                  have hE : exE g n mm z = true := c_4
                  rw [flF, hs]; simp only [hE]
                  first
                    | (simp [fhs_13_1, fhs_13_2, fhs_13_3]; done)
                    | (repeat' split) <;> first | rfl | (exfalso; simp at *; omega) | omega
                have q_14 : va_up (va_up g 29 (fun _ => nI (flF (exE g n mm) (g 30) (z + 1)).1)) 30 ((flF (exE g n mm) (g 30) (z + 1)).2.2) = va_up (va_up g 29 (fun _ => nI (L + 1))) 30 (upd li L (nI z)) := by rw [hs_13]
                exact ih (z + 1) (by omega) (by omega) H locs ls (by rw [q_14]; exact hP) (by rw [q_14]; exact hD) hS (by rw [hs_13]; exact lv_sub hl [2, 1, 0] rfl)
            · refine lv_iload_n hx hb dX3_findLeast_50 rfl (lv_at hl 2 rfl) ?_
              refine x_rdS (As := [.int (nI z)]) (rest := [.ref o]) ⟨hx, hb, hml, hown, hts⟩ (tX3_many l D cI cZ cC z hz16) (va_cwS 1 hts gX3_findLeast_X3_many rfl rfl rfl (by decide +kernel) ⟨Nat.le_of_ble_eq_true rfl, Nat.le_of_ble_eq_true rfl⟩) hK trivial rfl hl.1 rfl (Nat.le_of_ble_eq_true rfl) dX3_findLeast_51 ⟨Nat.le_of_ble_eq_true rfl, Nat.le_of_ble_eq_true rfl⟩ (fun r_15 er_15 => ?_)
              have er_15 : r_15 = nI (popG 16 z) := er_15
              subst er_15
              refine lv_iload_n hx hb dX3_findLeast_54 rfl (lv_at hl 1 rfl) ?_
              refine lv_icmp_ge (tgt := 62) hx hb dX3_findLeast_55 (by decide) (fun c_16 => ?_) (fun c_16 => ?_)
              · refine lv_aload_n hx hb dX3_findLeast_62 rfl (lv_at hl 0 rfl) ?_
                refine va_get (D := D) (ci := 3) (v := .int (nI L)) (C := RX3) (T := TX3) (N := 33) hx hb hts hinX3 hown hK hP 0 rfl rfl 29 (by decide) (hts (.fieldLink RX3 147 "TroubleCodesModel" "listed" "I") (mem_at 1 rfl)) (fun _ h9 => h9) rfl dX3_findLeast_63 ?_
                refine va_put (D := D) (ci := 3) (v := .int (nI L)) (ty := .int) (C := RX3) (T := TX3) (N := 33) hx hb hts hinX3 tyX3 tyX3_ok nmX3 hown hK hP hD hS 0 rfl rfl 29 (by decide) (hts (.fieldLink RX3 147 "TroubleCodesModel" "listed" "I") (mem_at 1 rfl)) (fun _ h9 => h9) rfl (by decide +kernel) rfl rfl (Nat.le_of_ble_eq_true rfl) dX3_findLeast_66 (fun H locs hP hD hS => ?_)
                have hP : va_P D vwCl (mW cI cZ q o (va_up (va_up g 29 (fun _ => nI L)) 30 li)) H := hP
                have hD : va_D A (mW cI cZ q o (va_up (va_up g 29 (fun _ => nI L)) 30 li)) := hD
                refine lv_iload_n hx hb dX3_findLeast_69 rfl (lv_at hl 2 rfl) ?_
                refine x_rdS (As := [.int (nI z)]) (rest := []) ⟨hx, hb, hml, hown, hts⟩ (tX3_many l D cI cZ cC z hz16) (va_cwS 1 hts gX3_findLeast_X3_many rfl rfl rfl (by decide +kernel) ⟨Nat.le_of_ble_eq_true rfl, Nat.le_of_ble_eq_true rfl⟩) hK trivial rfl hl.1 rfl (Nat.le_of_ble_eq_true rfl) dX3_findLeast_70 ⟨Nat.le_of_ble_eq_true rfl, Nat.le_of_ble_eq_true rfl⟩ (fun r_17 er_17 => ?_)
                have er_17 : r_17 = nI (popG 16 z) := er_17
                subst er_17
                refine lv_istore_n (lv' := [(1, .int (nI (popG 16 z))), (0, .ref o), (2, .int (nI z))]) hx hb dX3_findLeast_73 rfl hl (by decide) rfl (fun ls hl => ?_)
                refine lv_aload_n hx hb dX3_findLeast_74 rfl (lv_at hl 1 rfl) ?_
                refine va_get (D := D) (ci := 3) (v := .int (nI L)) (C := RX3) (T := TX3) (N := 33) hx hb hts hinX3 hown hK hP 0 rfl rfl 29 (by decide) (hts (.fieldLink RX3 147 "TroubleCodesModel" "listed" "I") (mem_at 1 rfl)) (fun _ h9 => h9) rfl dX3_findLeast_75 ?_
                refine lv_bipush (v := 10) hx hb dX3_findLeast_78 (by decide) ?_
                refine lv_icmp_ge (tgt := 103) hx hb dX3_findLeast_80 (by decide) (fun c_18 => ?_) (fun c_18 => ?_)
                · refine lv_iinc (v := nI (z + 1)) (lv' := [(2, .int (nI (z + 1))), (1, .int (nI (popG 16 z))), (0, .ref o)]) hx hb dX3_findLeast_103 hl (k := 2) rfl (nI_1 _) (by decide) rfl (fun ls hl => ?_)
                  refine lv_goto (tgt := 9) hx hb dX3_findLeast_106 (by decide) ?_
                  have fhs_19_0 := c_4
                  have fhs_19_1 := (show L = 0 from (nI_eq (a := L) (b := 0) (by omega) (by decide)).mp c_7)
                  have fhs_19_2 := (show ¬ L = 0 from fun h => c_8 (by rw [h]; decide))
                  have fhs_19_3 := (show few ≤ popG 16 z from (nI_leI (by omega) (by omega)).mp c_16)
                  have fhs_19_4 := (show 10 ≤ L from (nI_leI (a := 10) (by decide) (by omega)).mp c_18)
                  have hs_19 : flF (exE g n mm) (g 30) (z + 1) = (L, (popG 16 z), li) := by
                    have hE : exE g n mm z = true := c_4
                    rw [flF, hs]; simp only [hE]
                    first
                      | (simp [fhs_19_1, fhs_19_2, fhs_19_3, fhs_19_4]; done)
                      | (repeat' split) <;> first | rfl | (exfalso; simp at *; omega) | omega
                  have q_20 : va_up (va_up g 29 (fun _ => nI (flF (exE g n mm) (g 30) (z + 1)).1)) 30 ((flF (exE g n mm) (g 30) (z + 1)).2.2) = va_up (va_up g 29 (fun _ => nI L)) 30 li := by rw [hs_19]
                  exact ih (z + 1) (by omega) (by omega) H locs ls (by rw [q_20]; exact hP) (by rw [q_20]; exact hD) hS (by rw [hs_19]; exact lv_sub hl [2, 1, 0] rfl)
                · have hL9 : ¬ 10 ≤ L := fun h => c_18 ((nI_leI (a := 10) (by decide) (by omega)).mpr h)
                  refine lv_aload_n hx hb dX3_findLeast_83 rfl (lv_at hl 1 rfl) ?_
                  refine va_get (D := D) (ci := 3) (v := .ref (q 30)) (C := RX3) (T := TX3) (N := 33) hx hb hts hinX3 hown hK hP 0 rfl rfl 30 (by decide) (hts (.fieldLink RX3 84 "TroubleCodesModel" "list" "[I") (mem_at 3 rfl)) (fun _ h9 => h9) rfl dX3_findLeast_84 ?_
                  refine lv_aload_n hx hb dX3_findLeast_87 rfl (lv_at hl 1 rfl) ?_
                  refine va_get (D := D) (ci := 3) (v := .int (nI L)) (C := RX3) (T := TX3) (N := 33) hx hb hts hinX3 hown hK hP 0 rfl rfl 29 (by decide) (hts (.fieldLink RX3 147 "TroubleCodesModel" "listed" "I") (mem_at 1 rfl)) (fun _ h9 => h9) rfl dX3_findLeast_88 ?_
                  refine lv_iload_n hx hb dX3_findLeast_91 rfl (lv_at hl 2 rfl) ?_
                  refine x_iast (k := L) (f := li) (x := nI z) hx hb hK hP hD hS 24 rfl (by omega) (by decide) dX3_findLeast_92 (fun H locs hP hD hS => ?_)
                  have hP : va_P D vwCl (mW cI cZ q o (va_up (va_up g 29 (fun _ => nI L)) 30 (upd li L (nI z)))) H := hP
                  have hD : va_D A (mW cI cZ q o (va_up (va_up g 29 (fun _ => nI L)) 30 (upd li L (nI z)))) := hD
                  refine lv_aload_n hx hb dX3_findLeast_93 rfl (lv_at hl 1 rfl) ?_
                  refine lv_dup hx hb dX3_findLeast_94 rfl ?_
                  refine va_get (D := D) (ci := 3) (v := .int (nI L)) (C := RX3) (T := TX3) (N := 33) hx hb hts hinX3 hown hK hP 0 rfl rfl 29 (by decide) (hts (.fieldLink RX3 147 "TroubleCodesModel" "listed" "I") (mem_at 1 rfl)) (fun _ h9 => h9) rfl dX3_findLeast_95 ?_
                  refine lv_iconst (v := 1) hx hb dX3_findLeast_98 (by decide) ?_
                  refine lv_iadd hx hb dX3_findLeast_99 ?_
                  rw [nI_1]
                  refine va_put (D := D) (ci := 3) (v := .int (nI (L + 1))) (ty := .int) (C := RX3) (T := TX3) (N := 33) hx hb hts hinX3 tyX3 tyX3_ok nmX3 hown hK hP hD hS 0 rfl rfl 29 (by decide) (hts (.fieldLink RX3 147 "TroubleCodesModel" "listed" "I") (mem_at 1 rfl)) (fun _ h9 => h9) rfl (by decide +kernel) rfl rfl (Nat.le_of_ble_eq_true rfl) dX3_findLeast_100 (fun H locs hP hD hS => ?_)
                  have hP : va_P D vwCl (mW cI cZ q o (va_up (va_up g 29 (fun _ => nI (L + 1))) 30 (upd li L (nI z)))) H := hP
                  have hD : va_D A (mW cI cZ q o (va_up (va_up g 29 (fun _ => nI (L + 1))) 30 (upd li L (nI z)))) := hD
                  refine lv_iinc (v := nI (z + 1)) (lv' := [(2, .int (nI (z + 1))), (1, .int (nI (popG 16 z))), (0, .ref o)]) hx hb dX3_findLeast_103 hl (k := 2) rfl (nI_1 _) (by decide) rfl (fun ls hl => ?_)
                  refine lv_goto (tgt := 9) hx hb dX3_findLeast_106 (by decide) ?_
                  have fhs_21_0 := c_4
                  have fhs_21_1 := (show L = 0 from (nI_eq (a := L) (b := 0) (by omega) (by decide)).mp c_7)
                  have fhs_21_2 := (show ¬ L = 0 from fun h => c_8 (by rw [h]; decide))
                  have fhs_21_3 := (show few ≤ popG 16 z from (nI_leI (by omega) (by omega)).mp c_16)
                  have fhs_21_4 := (show ¬ 10 ≤ L from fun h => c_18 ((nI_leI (a := 10) (by decide) (by omega)).mpr h))
                  have hs_21 : flF (exE g n mm) (g 30) (z + 1) = ((L + 1), (popG 16 z), upd li L (nI z)) := by
                    have hE : exE g n mm z = true := c_4
                    rw [flF, hs]; simp only [hE]
                    first
                      | (simp [fhs_21_1, fhs_21_2, fhs_21_3, fhs_21_4]; done)
                      | (repeat' split) <;> first | rfl | (exfalso; simp at *; omega) | omega
                  have q_22 : va_up (va_up g 29 (fun _ => nI (flF (exE g n mm) (g 30) (z + 1)).1)) 30 ((flF (exE g n mm) (g 30) (z + 1)).2.2) = va_up (va_up g 29 (fun _ => nI (L + 1))) 30 (upd li L (nI z)) := by rw [hs_21]
                  exact ih (z + 1) (by omega) (by omega) H locs ls (by rw [q_22]; exact hP) (by rw [q_22]; exact hD) hS (by rw [hs_21]; exact lv_sub hl [2, 1, 0] rfl)
              · refine lv_iconst (v := 0) hx hb dX3_findLeast_58 (by decide) ?_
                refine lv_goto (tgt := 66) hx hb dX3_findLeast_59 (by decide) ?_
                refine W.eq (g2 := F0 m 66 ls [.int (nI 0), .ref o]) rfl ?_
                refine va_put (D := D) (ci := 3) (v := .int (nI 0)) (ty := .int) (C := RX3) (T := TX3) (N := 33) hx hb hts hinX3 tyX3 tyX3_ok nmX3 hown hK hP hD hS 0 rfl rfl 29 (by decide) (hts (.fieldLink RX3 147 "TroubleCodesModel" "listed" "I") (mem_at 1 rfl)) (fun _ h9 => h9) rfl (by decide +kernel) rfl rfl (Nat.le_of_ble_eq_true rfl) dX3_findLeast_66 (fun H locs hP hD hS => ?_)
                have hP : va_P D vwCl (mW cI cZ q o (va_up (va_up g 29 (fun _ => nI 0)) 30 li)) H := hP
                have hD : va_D A (mW cI cZ q o (va_up (va_up g 29 (fun _ => nI 0)) 30 li)) := hD
                refine lv_iload_n hx hb dX3_findLeast_69 rfl (lv_at hl 2 rfl) ?_
                refine x_rdS (As := [.int (nI z)]) (rest := []) ⟨hx, hb, hml, hown, hts⟩ (tX3_many l D cI cZ cC z hz16) (va_cwS 1 hts gX3_findLeast_X3_many rfl rfl rfl (by decide +kernel) ⟨Nat.le_of_ble_eq_true rfl, Nat.le_of_ble_eq_true rfl⟩) hK trivial rfl hl.1 rfl (Nat.le_of_ble_eq_true rfl) dX3_findLeast_70 ⟨Nat.le_of_ble_eq_true rfl, Nat.le_of_ble_eq_true rfl⟩ (fun r_23 er_23 => ?_)
                have er_23 : r_23 = nI (popG 16 z) := er_23
                subst er_23
                refine lv_istore_n (lv' := [(1, .int (nI (popG 16 z))), (0, .ref o), (2, .int (nI z))]) hx hb dX3_findLeast_73 rfl hl (by decide) rfl (fun ls hl => ?_)
                refine lv_aload_n hx hb dX3_findLeast_74 rfl (lv_at hl 1 rfl) ?_
                refine va_get (D := D) (ci := 3) (v := .int (nI 0)) (C := RX3) (T := TX3) (N := 33) hx hb hts hinX3 hown hK hP 0 rfl rfl 29 (by decide) (hts (.fieldLink RX3 147 "TroubleCodesModel" "listed" "I") (mem_at 1 rfl)) (fun _ h9 => h9) rfl dX3_findLeast_75 ?_
                refine lv_bipush (v := 10) hx hb dX3_findLeast_78 (by decide) ?_
                refine lv_icmp_ge (tgt := 103) hx hb dX3_findLeast_80 (by decide) (fun c_24 => ?_) (fun c_24 => ?_)
                · exact absurd c_24 (by decide)
                · refine lv_aload_n hx hb dX3_findLeast_83 rfl (lv_at hl 1 rfl) ?_
                  refine va_get (D := D) (ci := 3) (v := .ref (q 30)) (C := RX3) (T := TX3) (N := 33) hx hb hts hinX3 hown hK hP 0 rfl rfl 30 (by decide) (hts (.fieldLink RX3 84 "TroubleCodesModel" "list" "[I") (mem_at 3 rfl)) (fun _ h9 => h9) rfl dX3_findLeast_84 ?_
                  refine lv_aload_n hx hb dX3_findLeast_87 rfl (lv_at hl 1 rfl) ?_
                  refine va_get (D := D) (ci := 3) (v := .int (nI 0)) (C := RX3) (T := TX3) (N := 33) hx hb hts hinX3 hown hK hP 0 rfl rfl 29 (by decide) (hts (.fieldLink RX3 147 "TroubleCodesModel" "listed" "I") (mem_at 1 rfl)) (fun _ h9 => h9) rfl dX3_findLeast_88 ?_
                  refine lv_iload_n hx hb dX3_findLeast_91 rfl (lv_at hl 2 rfl) ?_
                  refine x_iast (k := 0) (f := li) (x := nI z) hx hb hK hP hD hS 24 rfl (by decide) (by decide) dX3_findLeast_92 (fun H locs hP hD hS => ?_)
                  have hP : va_P D vwCl (mW cI cZ q o (va_up (va_up g 29 (fun _ => nI 0)) 30 (upd li 0 (nI z)))) H := hP
                  have hD : va_D A (mW cI cZ q o (va_up (va_up g 29 (fun _ => nI 0)) 30 (upd li 0 (nI z)))) := hD
                  refine lv_aload_n hx hb dX3_findLeast_93 rfl (lv_at hl 1 rfl) ?_
                  refine lv_dup hx hb dX3_findLeast_94 rfl ?_
                  refine va_get (D := D) (ci := 3) (v := .int (nI 0)) (C := RX3) (T := TX3) (N := 33) hx hb hts hinX3 hown hK hP 0 rfl rfl 29 (by decide) (hts (.fieldLink RX3 147 "TroubleCodesModel" "listed" "I") (mem_at 1 rfl)) (fun _ h9 => h9) rfl dX3_findLeast_95 ?_
                  refine lv_iconst (v := 1) hx hb dX3_findLeast_98 (by decide) ?_
                  refine lv_iadd hx hb dX3_findLeast_99 ?_
                  rw [nI_1]
                  refine va_put (D := D) (ci := 3) (v := .int (nI (0 + 1))) (ty := .int) (C := RX3) (T := TX3) (N := 33) hx hb hts hinX3 tyX3 tyX3_ok nmX3 hown hK hP hD hS 0 rfl rfl 29 (by decide) (hts (.fieldLink RX3 147 "TroubleCodesModel" "listed" "I") (mem_at 1 rfl)) (fun _ h9 => h9) rfl (by decide +kernel) rfl rfl (Nat.le_of_ble_eq_true rfl) dX3_findLeast_100 (fun H locs hP hD hS => ?_)
                  have hP : va_P D vwCl (mW cI cZ q o (va_up (va_up g 29 (fun _ => nI (0 + 1))) 30 (upd li 0 (nI z)))) H := hP
                  have hD : va_D A (mW cI cZ q o (va_up (va_up g 29 (fun _ => nI (0 + 1))) 30 (upd li 0 (nI z)))) := hD
                  refine lv_iinc (v := nI (z + 1)) (lv' := [(2, .int (nI (z + 1))), (1, .int (nI (popG 16 z))), (0, .ref o)]) hx hb dX3_findLeast_103 hl (k := 2) rfl (nI_1 _) (by decide) rfl (fun ls hl => ?_)
                  refine lv_goto (tgt := 9) hx hb dX3_findLeast_106 (by decide) ?_
                  have fhs_25_0 := c_4
                  have fhs_25_1 := (show L = 0 from (nI_eq (a := L) (b := 0) (by omega) (by decide)).mp c_7)
                  have fhs_25_2 := (show ¬ L = 0 from fun h => c_8 (by rw [h]; decide))
                  have fhs_25_3 := (show ¬ few ≤ popG 16 z from fun h => c_16 ((nI_leI (by omega) (by omega)).mpr h))
                  have hs_25 : flF (exE g n mm) (g 30) (z + 1) = ((0 + 1), (popG 16 z), upd li 0 (nI z)) := by
                    have hE : exE g n mm z = true := c_4
                    rw [flF, hs]; simp only [hE]
                    first
                      | (simp [fhs_25_1, fhs_25_2, fhs_25_3]; done)
                      | (repeat' split) <;> first | rfl | (exfalso; simp at *; omega) | omega
                  have q_26 : va_up (va_up g 29 (fun _ => nI (flF (exE g n mm) (g 30) (z + 1)).1)) 30 ((flF (exE g n mm) (g 30) (z + 1)).2.2) = va_up (va_up g 29 (fun _ => nI (0 + 1))) 30 (upd li 0 (nI z)) := by rw [hs_25]
                  exact ih (z + 1) (by omega) (by omega) H locs ls (by rw [q_26]; exact hP) (by rw [q_26]; exact hD) hS (by rw [hs_25]; exact lv_sub hl [2, 1, 0] rfl)
          · refine lv_iload_n hx hb dX3_findLeast_34 rfl (lv_at hl 2 rfl) ?_
            refine x_rdS (As := [.int (nI z)]) (rest := []) ⟨hx, hb, hml, hown, hts⟩ (tX3_many l D cI cZ cC z hz16) (va_cwS 1 hts gX3_findLeast_X3_many rfl rfl rfl (by decide +kernel) ⟨Nat.le_of_ble_eq_true rfl, Nat.le_of_ble_eq_true rfl⟩) hK trivial rfl hl.1 rfl (Nat.le_of_ble_eq_true rfl) dX3_findLeast_35 ⟨Nat.le_of_ble_eq_true rfl, Nat.le_of_ble_eq_true rfl⟩ (fun r_27 er_27 => ?_)
            have er_27 : r_27 = nI (popG 16 z) := er_27
            subst er_27
            refine lv_iload_n hx hb dX3_findLeast_38 rfl (lv_at hl 1 rfl) ?_
            refine lv_icmp_gt (tgt := 103) hx hb dX3_findLeast_39 (by decide) (fun c_28 => ?_) (fun c_28 => ?_)
            · refine lv_iinc (v := nI (z + 1)) (lv' := [(2, .int (nI (z + 1))), (0, .ref o), (1, .int (nI few))]) hx hb dX3_findLeast_103 hl (k := 2) rfl (nI_1 _) (by decide) rfl (fun ls hl => ?_)
              refine lv_goto (tgt := 9) hx hb dX3_findLeast_106 (by decide) ?_
              have fhs_29_0 := c_4
              have fhs_29_1 := (show ¬ L = 0 from fun h => c_7 (by rw [h]; rfl))
              have fhs_29_2 := (show few < popG 16 z from (nI_ltI (by omega) (by omega)).mp c_28)
              have hs_29 : flF (exE g n mm) (g 30) (z + 1) = (L, few, li) := by
                have hE : exE g n mm z = true := c_4
                rw [flF, hs]; simp only [hE]
                first
                  | (simp [fhs_29_1, fhs_29_2]; done)
                  | (repeat' split) <;> first | rfl | (exfalso; simp at *; omega) | omega
              have q_30 : va_up (va_up g 29 (fun _ => nI (flF (exE g n mm) (g 30) (z + 1)).1)) 30 ((flF (exE g n mm) (g 30) (z + 1)).2.2) = va_up (va_up g 29 (fun _ => nI L)) 30 li := by rw [hs_29]
              exact ih (z + 1) (by omega) (by omega) H locs ls (by rw [q_30]; exact hP) (by rw [q_30]; exact hD) hS (by rw [hs_29]; exact lv_sub hl [1, 2, 0] rfl)
            · refine lv_aload_n hx hb dX3_findLeast_42 rfl (lv_at hl 0 rfl) ?_
              refine lv_aload_n hx hb dX3_findLeast_43 rfl (lv_at hl 0 rfl) ?_
              refine va_get (D := D) (ci := 3) (v := .int (nI L)) (C := RX3) (T := TX3) (N := 33) hx hb hts hinX3 hown hK hP 0 rfl rfl 29 (by decide) (hts (.fieldLink RX3 147 "TroubleCodesModel" "listed" "I") (mem_at 1 rfl)) (fun _ h9 => h9) rfl dX3_findLeast_44 ?_
              refine lv_if_le (tgt := 62) hx hb dX3_findLeast_47 (by decide) (fun c_31 => ?_) (fun c_31 => ?_)
              · refine lv_aload_n hx hb dX3_findLeast_62 rfl (lv_at hl 0 rfl) ?_
                refine va_get (D := D) (ci := 3) (v := .int (nI L)) (C := RX3) (T := TX3) (N := 33) hx hb hts hinX3 hown hK hP 0 rfl rfl 29 (by decide) (hts (.fieldLink RX3 147 "TroubleCodesModel" "listed" "I") (mem_at 1 rfl)) (fun _ h9 => h9) rfl dX3_findLeast_63 ?_
                refine va_put (D := D) (ci := 3) (v := .int (nI L)) (ty := .int) (C := RX3) (T := TX3) (N := 33) hx hb hts hinX3 tyX3 tyX3_ok nmX3 hown hK hP hD hS 0 rfl rfl 29 (by decide) (hts (.fieldLink RX3 147 "TroubleCodesModel" "listed" "I") (mem_at 1 rfl)) (fun _ h9 => h9) rfl (by decide +kernel) rfl rfl (Nat.le_of_ble_eq_true rfl) dX3_findLeast_66 (fun H locs hP hD hS => ?_)
                have hP : va_P D vwCl (mW cI cZ q o (va_up (va_up g 29 (fun _ => nI L)) 30 li)) H := hP
                have hD : va_D A (mW cI cZ q o (va_up (va_up g 29 (fun _ => nI L)) 30 li)) := hD
                refine lv_iload_n hx hb dX3_findLeast_69 rfl (lv_at hl 2 rfl) ?_
                refine x_rdS (As := [.int (nI z)]) (rest := []) ⟨hx, hb, hml, hown, hts⟩ (tX3_many l D cI cZ cC z hz16) (va_cwS 1 hts gX3_findLeast_X3_many rfl rfl rfl (by decide +kernel) ⟨Nat.le_of_ble_eq_true rfl, Nat.le_of_ble_eq_true rfl⟩) hK trivial rfl hl.1 rfl (Nat.le_of_ble_eq_true rfl) dX3_findLeast_70 ⟨Nat.le_of_ble_eq_true rfl, Nat.le_of_ble_eq_true rfl⟩ (fun r_32 er_32 => ?_)
                have er_32 : r_32 = nI (popG 16 z) := er_32
                subst er_32
                refine lv_istore_n (lv' := [(1, .int (nI (popG 16 z))), (0, .ref o), (2, .int (nI z))]) hx hb dX3_findLeast_73 rfl hl (by decide) rfl (fun ls hl => ?_)
                refine lv_aload_n hx hb dX3_findLeast_74 rfl (lv_at hl 1 rfl) ?_
                refine va_get (D := D) (ci := 3) (v := .int (nI L)) (C := RX3) (T := TX3) (N := 33) hx hb hts hinX3 hown hK hP 0 rfl rfl 29 (by decide) (hts (.fieldLink RX3 147 "TroubleCodesModel" "listed" "I") (mem_at 1 rfl)) (fun _ h9 => h9) rfl dX3_findLeast_75 ?_
                refine lv_bipush (v := 10) hx hb dX3_findLeast_78 (by decide) ?_
                refine lv_icmp_ge (tgt := 103) hx hb dX3_findLeast_80 (by decide) (fun c_33 => ?_) (fun c_33 => ?_)
                · refine lv_iinc (v := nI (z + 1)) (lv' := [(2, .int (nI (z + 1))), (1, .int (nI (popG 16 z))), (0, .ref o)]) hx hb dX3_findLeast_103 hl (k := 2) rfl (nI_1 _) (by decide) rfl (fun ls hl => ?_)
                  refine lv_goto (tgt := 9) hx hb dX3_findLeast_106 (by decide) ?_
                  have fhs_34_0 := c_4
                  have fhs_34_1 := (show ¬ L = 0 from fun h => c_7 (by rw [h]; rfl))
                  have fhs_34_2 := (show ¬ few < popG 16 z from fun h => c_28 ((nI_ltI (by omega) (by omega)).mpr h))
                  have fhs_34_3 := (show L = 0 from Nat.le_zero.mp ((nI_leI (a := L) (b := 0) (by omega) (by decide)).mp c_31))
                  have fhs_34_4 := (show 10 ≤ L from (nI_leI (a := 10) (by decide) (by omega)).mp c_33)
                  have hs_34 : flF (exE g n mm) (g 30) (z + 1) = (L, (popG 16 z), li) := by
                    have hE : exE g n mm z = true := c_4
                    rw [flF, hs]; simp only [hE]
                    first
                      | (simp [fhs_34_1, fhs_34_2, fhs_34_3, fhs_34_4]; done)
                      | (repeat' split) <;> first | rfl | (exfalso; simp at *; omega) | omega
                  have q_35 : va_up (va_up g 29 (fun _ => nI (flF (exE g n mm) (g 30) (z + 1)).1)) 30 ((flF (exE g n mm) (g 30) (z + 1)).2.2) = va_up (va_up g 29 (fun _ => nI L)) 30 li := by rw [hs_34]
                  exact ih (z + 1) (by omega) (by omega) H locs ls (by rw [q_35]; exact hP) (by rw [q_35]; exact hD) hS (by rw [hs_34]; exact lv_sub hl [2, 1, 0] rfl)
                · have hL9 : ¬ 10 ≤ L := fun h => c_33 ((nI_leI (a := 10) (by decide) (by omega)).mpr h)
                  refine lv_aload_n hx hb dX3_findLeast_83 rfl (lv_at hl 1 rfl) ?_
                  refine va_get (D := D) (ci := 3) (v := .ref (q 30)) (C := RX3) (T := TX3) (N := 33) hx hb hts hinX3 hown hK hP 0 rfl rfl 30 (by decide) (hts (.fieldLink RX3 84 "TroubleCodesModel" "list" "[I") (mem_at 3 rfl)) (fun _ h9 => h9) rfl dX3_findLeast_84 ?_
                  refine lv_aload_n hx hb dX3_findLeast_87 rfl (lv_at hl 1 rfl) ?_
                  refine va_get (D := D) (ci := 3) (v := .int (nI L)) (C := RX3) (T := TX3) (N := 33) hx hb hts hinX3 hown hK hP 0 rfl rfl 29 (by decide) (hts (.fieldLink RX3 147 "TroubleCodesModel" "listed" "I") (mem_at 1 rfl)) (fun _ h9 => h9) rfl dX3_findLeast_88 ?_
                  refine lv_iload_n hx hb dX3_findLeast_91 rfl (lv_at hl 2 rfl) ?_
                  refine x_iast (k := L) (f := li) (x := nI z) hx hb hK hP hD hS 24 rfl (by omega) (by decide) dX3_findLeast_92 (fun H locs hP hD hS => ?_)
                  have hP : va_P D vwCl (mW cI cZ q o (va_up (va_up g 29 (fun _ => nI L)) 30 (upd li L (nI z)))) H := hP
                  have hD : va_D A (mW cI cZ q o (va_up (va_up g 29 (fun _ => nI L)) 30 (upd li L (nI z)))) := hD
                  refine lv_aload_n hx hb dX3_findLeast_93 rfl (lv_at hl 1 rfl) ?_
                  refine lv_dup hx hb dX3_findLeast_94 rfl ?_
                  refine va_get (D := D) (ci := 3) (v := .int (nI L)) (C := RX3) (T := TX3) (N := 33) hx hb hts hinX3 hown hK hP 0 rfl rfl 29 (by decide) (hts (.fieldLink RX3 147 "TroubleCodesModel" "listed" "I") (mem_at 1 rfl)) (fun _ h9 => h9) rfl dX3_findLeast_95 ?_
                  refine lv_iconst (v := 1) hx hb dX3_findLeast_98 (by decide) ?_
                  refine lv_iadd hx hb dX3_findLeast_99 ?_
                  rw [nI_1]
                  refine va_put (D := D) (ci := 3) (v := .int (nI (L + 1))) (ty := .int) (C := RX3) (T := TX3) (N := 33) hx hb hts hinX3 tyX3 tyX3_ok nmX3 hown hK hP hD hS 0 rfl rfl 29 (by decide) (hts (.fieldLink RX3 147 "TroubleCodesModel" "listed" "I") (mem_at 1 rfl)) (fun _ h9 => h9) rfl (by decide +kernel) rfl rfl (Nat.le_of_ble_eq_true rfl) dX3_findLeast_100 (fun H locs hP hD hS => ?_)
                  have hP : va_P D vwCl (mW cI cZ q o (va_up (va_up g 29 (fun _ => nI (L + 1))) 30 (upd li L (nI z)))) H := hP
                  have hD : va_D A (mW cI cZ q o (va_up (va_up g 29 (fun _ => nI (L + 1))) 30 (upd li L (nI z)))) := hD
                  refine lv_iinc (v := nI (z + 1)) (lv' := [(2, .int (nI (z + 1))), (1, .int (nI (popG 16 z))), (0, .ref o)]) hx hb dX3_findLeast_103 hl (k := 2) rfl (nI_1 _) (by decide) rfl (fun ls hl => ?_)
                  refine lv_goto (tgt := 9) hx hb dX3_findLeast_106 (by decide) ?_
                  have fhs_36_0 := c_4
                  have fhs_36_1 := (show ¬ L = 0 from fun h => c_7 (by rw [h]; rfl))
                  have fhs_36_2 := (show ¬ few < popG 16 z from fun h => c_28 ((nI_ltI (by omega) (by omega)).mpr h))
                  have fhs_36_3 := (show L = 0 from Nat.le_zero.mp ((nI_leI (a := L) (b := 0) (by omega) (by decide)).mp c_31))
                  have fhs_36_4 := (show ¬ 10 ≤ L from fun h => c_33 ((nI_leI (a := 10) (by decide) (by omega)).mpr h))
                  have hs_36 : flF (exE g n mm) (g 30) (z + 1) = ((L + 1), (popG 16 z), upd li L (nI z)) := by
                    have hE : exE g n mm z = true := c_4
                    rw [flF, hs]; simp only [hE]
                    first
                      | (simp [fhs_36_1, fhs_36_2, fhs_36_3, fhs_36_4]; done)
                      | (repeat' split) <;> first | rfl | (exfalso; simp at *; omega) | omega
                  have q_37 : va_up (va_up g 29 (fun _ => nI (flF (exE g n mm) (g 30) (z + 1)).1)) 30 ((flF (exE g n mm) (g 30) (z + 1)).2.2) = va_up (va_up g 29 (fun _ => nI (L + 1))) 30 (upd li L (nI z)) := by rw [hs_36]
                  exact ih (z + 1) (by omega) (by omega) H locs ls (by rw [q_37]; exact hP) (by rw [q_37]; exact hD) hS (by rw [hs_36]; exact lv_sub hl [2, 1, 0] rfl)
              · refine lv_iload_n hx hb dX3_findLeast_50 rfl (lv_at hl 2 rfl) ?_
                refine x_rdS (As := [.int (nI z)]) (rest := [.ref o]) ⟨hx, hb, hml, hown, hts⟩ (tX3_many l D cI cZ cC z hz16) (va_cwS 1 hts gX3_findLeast_X3_many rfl rfl rfl (by decide +kernel) ⟨Nat.le_of_ble_eq_true rfl, Nat.le_of_ble_eq_true rfl⟩) hK trivial rfl hl.1 rfl (Nat.le_of_ble_eq_true rfl) dX3_findLeast_51 ⟨Nat.le_of_ble_eq_true rfl, Nat.le_of_ble_eq_true rfl⟩ (fun r_38 er_38 => ?_)
                have er_38 : r_38 = nI (popG 16 z) := er_38
                subst er_38
                refine lv_iload_n hx hb dX3_findLeast_54 rfl (lv_at hl 1 rfl) ?_
                refine lv_icmp_ge (tgt := 62) hx hb dX3_findLeast_55 (by decide) (fun c_39 => ?_) (fun c_39 => ?_)
                · refine lv_aload_n hx hb dX3_findLeast_62 rfl (lv_at hl 0 rfl) ?_
                  refine va_get (D := D) (ci := 3) (v := .int (nI L)) (C := RX3) (T := TX3) (N := 33) hx hb hts hinX3 hown hK hP 0 rfl rfl 29 (by decide) (hts (.fieldLink RX3 147 "TroubleCodesModel" "listed" "I") (mem_at 1 rfl)) (fun _ h9 => h9) rfl dX3_findLeast_63 ?_
                  refine va_put (D := D) (ci := 3) (v := .int (nI L)) (ty := .int) (C := RX3) (T := TX3) (N := 33) hx hb hts hinX3 tyX3 tyX3_ok nmX3 hown hK hP hD hS 0 rfl rfl 29 (by decide) (hts (.fieldLink RX3 147 "TroubleCodesModel" "listed" "I") (mem_at 1 rfl)) (fun _ h9 => h9) rfl (by decide +kernel) rfl rfl (Nat.le_of_ble_eq_true rfl) dX3_findLeast_66 (fun H locs hP hD hS => ?_)
                  have hP : va_P D vwCl (mW cI cZ q o (va_up (va_up g 29 (fun _ => nI L)) 30 li)) H := hP
                  have hD : va_D A (mW cI cZ q o (va_up (va_up g 29 (fun _ => nI L)) 30 li)) := hD
                  refine lv_iload_n hx hb dX3_findLeast_69 rfl (lv_at hl 2 rfl) ?_
                  refine x_rdS (As := [.int (nI z)]) (rest := []) ⟨hx, hb, hml, hown, hts⟩ (tX3_many l D cI cZ cC z hz16) (va_cwS 1 hts gX3_findLeast_X3_many rfl rfl rfl (by decide +kernel) ⟨Nat.le_of_ble_eq_true rfl, Nat.le_of_ble_eq_true rfl⟩) hK trivial rfl hl.1 rfl (Nat.le_of_ble_eq_true rfl) dX3_findLeast_70 ⟨Nat.le_of_ble_eq_true rfl, Nat.le_of_ble_eq_true rfl⟩ (fun r_40 er_40 => ?_)
                  have er_40 : r_40 = nI (popG 16 z) := er_40
                  subst er_40
                  refine lv_istore_n (lv' := [(1, .int (nI (popG 16 z))), (0, .ref o), (2, .int (nI z))]) hx hb dX3_findLeast_73 rfl hl (by decide) rfl (fun ls hl => ?_)
                  refine lv_aload_n hx hb dX3_findLeast_74 rfl (lv_at hl 1 rfl) ?_
                  refine va_get (D := D) (ci := 3) (v := .int (nI L)) (C := RX3) (T := TX3) (N := 33) hx hb hts hinX3 hown hK hP 0 rfl rfl 29 (by decide) (hts (.fieldLink RX3 147 "TroubleCodesModel" "listed" "I") (mem_at 1 rfl)) (fun _ h9 => h9) rfl dX3_findLeast_75 ?_
                  refine lv_bipush (v := 10) hx hb dX3_findLeast_78 (by decide) ?_
                  refine lv_icmp_ge (tgt := 103) hx hb dX3_findLeast_80 (by decide) (fun c_41 => ?_) (fun c_41 => ?_)
                  · refine lv_iinc (v := nI (z + 1)) (lv' := [(2, .int (nI (z + 1))), (1, .int (nI (popG 16 z))), (0, .ref o)]) hx hb dX3_findLeast_103 hl (k := 2) rfl (nI_1 _) (by decide) rfl (fun ls hl => ?_)
                    refine lv_goto (tgt := 9) hx hb dX3_findLeast_106 (by decide) ?_
                    have fhs_42_0 := c_4
                    have fhs_42_1 := (show ¬ L = 0 from fun h => c_7 (by rw [h]; rfl))
                    have fhs_42_2 := (show ¬ few < popG 16 z from fun h => c_28 ((nI_ltI (by omega) (by omega)).mpr h))
                    have fhs_42_3 := (show ¬ L = 0 from fun h => c_31 (by rw [h]; decide))
                    have fhs_42_4 := (show few ≤ popG 16 z from (nI_leI (by omega) (by omega)).mp c_39)
                    have fhs_42_5 := (show 10 ≤ L from (nI_leI (a := 10) (by decide) (by omega)).mp c_41)
                    have hs_42 : flF (exE g n mm) (g 30) (z + 1) = (L, (popG 16 z), li) := by
                      have hE : exE g n mm z = true := c_4
                      rw [flF, hs]; simp only [hE]
                      first
                        | (simp [fhs_42_1, fhs_42_2, fhs_42_3, fhs_42_4, fhs_42_5]; done)
                        | (repeat' split) <;> first | rfl | (exfalso; simp at *; omega) | omega
                    have q_43 : va_up (va_up g 29 (fun _ => nI (flF (exE g n mm) (g 30) (z + 1)).1)) 30 ((flF (exE g n mm) (g 30) (z + 1)).2.2) = va_up (va_up g 29 (fun _ => nI L)) 30 li := by rw [hs_42]
                    exact ih (z + 1) (by omega) (by omega) H locs ls (by rw [q_43]; exact hP) (by rw [q_43]; exact hD) hS (by rw [hs_42]; exact lv_sub hl [2, 1, 0] rfl)
                  · have hL9 : ¬ 10 ≤ L := fun h => c_41 ((nI_leI (a := 10) (by decide) (by omega)).mpr h)
                    refine lv_aload_n hx hb dX3_findLeast_83 rfl (lv_at hl 1 rfl) ?_
                    refine va_get (D := D) (ci := 3) (v := .ref (q 30)) (C := RX3) (T := TX3) (N := 33) hx hb hts hinX3 hown hK hP 0 rfl rfl 30 (by decide) (hts (.fieldLink RX3 84 "TroubleCodesModel" "list" "[I") (mem_at 3 rfl)) (fun _ h9 => h9) rfl dX3_findLeast_84 ?_
                    refine lv_aload_n hx hb dX3_findLeast_87 rfl (lv_at hl 1 rfl) ?_
                    refine va_get (D := D) (ci := 3) (v := .int (nI L)) (C := RX3) (T := TX3) (N := 33) hx hb hts hinX3 hown hK hP 0 rfl rfl 29 (by decide) (hts (.fieldLink RX3 147 "TroubleCodesModel" "listed" "I") (mem_at 1 rfl)) (fun _ h9 => h9) rfl dX3_findLeast_88 ?_
                    refine lv_iload_n hx hb dX3_findLeast_91 rfl (lv_at hl 2 rfl) ?_
                    refine x_iast (k := L) (f := li) (x := nI z) hx hb hK hP hD hS 24 rfl (by omega) (by decide) dX3_findLeast_92 (fun H locs hP hD hS => ?_)
                    have hP : va_P D vwCl (mW cI cZ q o (va_up (va_up g 29 (fun _ => nI L)) 30 (upd li L (nI z)))) H := hP
                    have hD : va_D A (mW cI cZ q o (va_up (va_up g 29 (fun _ => nI L)) 30 (upd li L (nI z)))) := hD
                    refine lv_aload_n hx hb dX3_findLeast_93 rfl (lv_at hl 1 rfl) ?_
                    refine lv_dup hx hb dX3_findLeast_94 rfl ?_
                    refine va_get (D := D) (ci := 3) (v := .int (nI L)) (C := RX3) (T := TX3) (N := 33) hx hb hts hinX3 hown hK hP 0 rfl rfl 29 (by decide) (hts (.fieldLink RX3 147 "TroubleCodesModel" "listed" "I") (mem_at 1 rfl)) (fun _ h9 => h9) rfl dX3_findLeast_95 ?_
                    refine lv_iconst (v := 1) hx hb dX3_findLeast_98 (by decide) ?_
                    refine lv_iadd hx hb dX3_findLeast_99 ?_
                    rw [nI_1]
                    refine va_put (D := D) (ci := 3) (v := .int (nI (L + 1))) (ty := .int) (C := RX3) (T := TX3) (N := 33) hx hb hts hinX3 tyX3 tyX3_ok nmX3 hown hK hP hD hS 0 rfl rfl 29 (by decide) (hts (.fieldLink RX3 147 "TroubleCodesModel" "listed" "I") (mem_at 1 rfl)) (fun _ h9 => h9) rfl (by decide +kernel) rfl rfl (Nat.le_of_ble_eq_true rfl) dX3_findLeast_100 (fun H locs hP hD hS => ?_)
                    have hP : va_P D vwCl (mW cI cZ q o (va_up (va_up g 29 (fun _ => nI (L + 1))) 30 (upd li L (nI z)))) H := hP
                    have hD : va_D A (mW cI cZ q o (va_up (va_up g 29 (fun _ => nI (L + 1))) 30 (upd li L (nI z)))) := hD
                    refine lv_iinc (v := nI (z + 1)) (lv' := [(2, .int (nI (z + 1))), (1, .int (nI (popG 16 z))), (0, .ref o)]) hx hb dX3_findLeast_103 hl (k := 2) rfl (nI_1 _) (by decide) rfl (fun ls hl => ?_)
                    refine lv_goto (tgt := 9) hx hb dX3_findLeast_106 (by decide) ?_
                    have fhs_44_0 := c_4
                    have fhs_44_1 := (show ¬ L = 0 from fun h => c_7 (by rw [h]; rfl))
                    have fhs_44_2 := (show ¬ few < popG 16 z from fun h => c_28 ((nI_ltI (by omega) (by omega)).mpr h))
                    have fhs_44_3 := (show ¬ L = 0 from fun h => c_31 (by rw [h]; decide))
                    have fhs_44_4 := (show few ≤ popG 16 z from (nI_leI (by omega) (by omega)).mp c_39)
                    have fhs_44_5 := (show ¬ 10 ≤ L from fun h => c_41 ((nI_leI (a := 10) (by decide) (by omega)).mpr h))
                    have hs_44 : flF (exE g n mm) (g 30) (z + 1) = ((L + 1), (popG 16 z), upd li L (nI z)) := by
                      have hE : exE g n mm z = true := c_4
                      rw [flF, hs]; simp only [hE]
                      first
                        | (simp [fhs_44_1, fhs_44_2, fhs_44_3, fhs_44_4, fhs_44_5]; done)
                        | (repeat' split) <;> first | rfl | (exfalso; simp at *; omega) | omega
                    have q_45 : va_up (va_up g 29 (fun _ => nI (flF (exE g n mm) (g 30) (z + 1)).1)) 30 ((flF (exE g n mm) (g 30) (z + 1)).2.2) = va_up (va_up g 29 (fun _ => nI (L + 1))) 30 (upd li L (nI z)) := by rw [hs_44]
                    exact ih (z + 1) (by omega) (by omega) H locs ls (by rw [q_45]; exact hP) (by rw [q_45]; exact hD) hS (by rw [hs_44]; exact lv_sub hl [2, 1, 0] rfl)
                · refine lv_iconst (v := 0) hx hb dX3_findLeast_58 (by decide) ?_
                  refine lv_goto (tgt := 66) hx hb dX3_findLeast_59 (by decide) ?_
                  refine W.eq (g2 := F0 m 66 ls [.int (nI 0), .ref o]) rfl ?_
                  refine va_put (D := D) (ci := 3) (v := .int (nI 0)) (ty := .int) (C := RX3) (T := TX3) (N := 33) hx hb hts hinX3 tyX3 tyX3_ok nmX3 hown hK hP hD hS 0 rfl rfl 29 (by decide) (hts (.fieldLink RX3 147 "TroubleCodesModel" "listed" "I") (mem_at 1 rfl)) (fun _ h9 => h9) rfl (by decide +kernel) rfl rfl (Nat.le_of_ble_eq_true rfl) dX3_findLeast_66 (fun H locs hP hD hS => ?_)
                  have hP : va_P D vwCl (mW cI cZ q o (va_up (va_up g 29 (fun _ => nI 0)) 30 li)) H := hP
                  have hD : va_D A (mW cI cZ q o (va_up (va_up g 29 (fun _ => nI 0)) 30 li)) := hD
                  refine lv_iload_n hx hb dX3_findLeast_69 rfl (lv_at hl 2 rfl) ?_
                  refine x_rdS (As := [.int (nI z)]) (rest := []) ⟨hx, hb, hml, hown, hts⟩ (tX3_many l D cI cZ cC z hz16) (va_cwS 1 hts gX3_findLeast_X3_many rfl rfl rfl (by decide +kernel) ⟨Nat.le_of_ble_eq_true rfl, Nat.le_of_ble_eq_true rfl⟩) hK trivial rfl hl.1 rfl (Nat.le_of_ble_eq_true rfl) dX3_findLeast_70 ⟨Nat.le_of_ble_eq_true rfl, Nat.le_of_ble_eq_true rfl⟩ (fun r_46 er_46 => ?_)
                  have er_46 : r_46 = nI (popG 16 z) := er_46
                  subst er_46
                  refine lv_istore_n (lv' := [(1, .int (nI (popG 16 z))), (0, .ref o), (2, .int (nI z))]) hx hb dX3_findLeast_73 rfl hl (by decide) rfl (fun ls hl => ?_)
                  refine lv_aload_n hx hb dX3_findLeast_74 rfl (lv_at hl 1 rfl) ?_
                  refine va_get (D := D) (ci := 3) (v := .int (nI 0)) (C := RX3) (T := TX3) (N := 33) hx hb hts hinX3 hown hK hP 0 rfl rfl 29 (by decide) (hts (.fieldLink RX3 147 "TroubleCodesModel" "listed" "I") (mem_at 1 rfl)) (fun _ h9 => h9) rfl dX3_findLeast_75 ?_
                  refine lv_bipush (v := 10) hx hb dX3_findLeast_78 (by decide) ?_
                  refine lv_icmp_ge (tgt := 103) hx hb dX3_findLeast_80 (by decide) (fun c_47 => ?_) (fun c_47 => ?_)
                  · exact absurd c_47 (by decide)
                  · refine lv_aload_n hx hb dX3_findLeast_83 rfl (lv_at hl 1 rfl) ?_
                    refine va_get (D := D) (ci := 3) (v := .ref (q 30)) (C := RX3) (T := TX3) (N := 33) hx hb hts hinX3 hown hK hP 0 rfl rfl 30 (by decide) (hts (.fieldLink RX3 84 "TroubleCodesModel" "list" "[I") (mem_at 3 rfl)) (fun _ h9 => h9) rfl dX3_findLeast_84 ?_
                    refine lv_aload_n hx hb dX3_findLeast_87 rfl (lv_at hl 1 rfl) ?_
                    refine va_get (D := D) (ci := 3) (v := .int (nI 0)) (C := RX3) (T := TX3) (N := 33) hx hb hts hinX3 hown hK hP 0 rfl rfl 29 (by decide) (hts (.fieldLink RX3 147 "TroubleCodesModel" "listed" "I") (mem_at 1 rfl)) (fun _ h9 => h9) rfl dX3_findLeast_88 ?_
                    refine lv_iload_n hx hb dX3_findLeast_91 rfl (lv_at hl 2 rfl) ?_
                    refine x_iast (k := 0) (f := li) (x := nI z) hx hb hK hP hD hS 24 rfl (by decide) (by decide) dX3_findLeast_92 (fun H locs hP hD hS => ?_)
                    have hP : va_P D vwCl (mW cI cZ q o (va_up (va_up g 29 (fun _ => nI 0)) 30 (upd li 0 (nI z)))) H := hP
                    have hD : va_D A (mW cI cZ q o (va_up (va_up g 29 (fun _ => nI 0)) 30 (upd li 0 (nI z)))) := hD
                    refine lv_aload_n hx hb dX3_findLeast_93 rfl (lv_at hl 1 rfl) ?_
                    refine lv_dup hx hb dX3_findLeast_94 rfl ?_
                    refine va_get (D := D) (ci := 3) (v := .int (nI 0)) (C := RX3) (T := TX3) (N := 33) hx hb hts hinX3 hown hK hP 0 rfl rfl 29 (by decide) (hts (.fieldLink RX3 147 "TroubleCodesModel" "listed" "I") (mem_at 1 rfl)) (fun _ h9 => h9) rfl dX3_findLeast_95 ?_
                    refine lv_iconst (v := 1) hx hb dX3_findLeast_98 (by decide) ?_
                    refine lv_iadd hx hb dX3_findLeast_99 ?_
                    rw [nI_1]
                    refine va_put (D := D) (ci := 3) (v := .int (nI (0 + 1))) (ty := .int) (C := RX3) (T := TX3) (N := 33) hx hb hts hinX3 tyX3 tyX3_ok nmX3 hown hK hP hD hS 0 rfl rfl 29 (by decide) (hts (.fieldLink RX3 147 "TroubleCodesModel" "listed" "I") (mem_at 1 rfl)) (fun _ h9 => h9) rfl (by decide +kernel) rfl rfl (Nat.le_of_ble_eq_true rfl) dX3_findLeast_100 (fun H locs hP hD hS => ?_)
                    have hP : va_P D vwCl (mW cI cZ q o (va_up (va_up g 29 (fun _ => nI (0 + 1))) 30 (upd li 0 (nI z)))) H := hP
                    have hD : va_D A (mW cI cZ q o (va_up (va_up g 29 (fun _ => nI (0 + 1))) 30 (upd li 0 (nI z)))) := hD
                    refine lv_iinc (v := nI (z + 1)) (lv' := [(2, .int (nI (z + 1))), (1, .int (nI (popG 16 z))), (0, .ref o)]) hx hb dX3_findLeast_103 hl (k := 2) rfl (nI_1 _) (by decide) rfl (fun ls hl => ?_)
                    refine lv_goto (tgt := 9) hx hb dX3_findLeast_106 (by decide) ?_
                    have fhs_48_0 := c_4
                    have fhs_48_1 := (show ¬ L = 0 from fun h => c_7 (by rw [h]; rfl))
                    have fhs_48_2 := (show ¬ few < popG 16 z from fun h => c_28 ((nI_ltI (by omega) (by omega)).mpr h))
                    have fhs_48_3 := (show ¬ L = 0 from fun h => c_31 (by rw [h]; decide))
                    have fhs_48_4 := (show ¬ few ≤ popG 16 z from fun h => c_39 ((nI_leI (by omega) (by omega)).mpr h))
                    have hs_48 : flF (exE g n mm) (g 30) (z + 1) = ((0 + 1), (popG 16 z), upd li 0 (nI z)) := by
                      have hE : exE g n mm z = true := c_4
                      rw [flF, hs]; simp only [hE]
                      first
                        | (simp [fhs_48_1, fhs_48_2, fhs_48_3, fhs_48_4]; done)
                        | (repeat' split) <;> first | rfl | (exfalso; simp at *; omega) | omega
                    have q_49 : va_up (va_up g 29 (fun _ => nI (flF (exE g n mm) (g 30) (z + 1)).1)) 30 ((flF (exE g n mm) (g 30) (z + 1)).2.2) = va_up (va_up g 29 (fun _ => nI (0 + 1))) 30 (upd li 0 (nI z)) := by rw [hs_48]
                    exact ih (z + 1) (by omega) (by omega) H locs ls (by rw [q_49]; exact hP) (by rw [q_49]; exact hD) hS (by rw [hs_48]; exact lv_sub hl [2, 1, 0] rfl)
  have q_50 : (nI (flF (exE g n mm) (g 30) 0).2.1 : Int32) = 0 := by rfl
  have q_51 : (nI 0 : Int32) = 0 := by rfl
  exact LOOP_1 (2 ^ mm - 0 + 1) 0 (Nat.zero_le _) (Nat.lt_succ_self _) _ _ ls (by skip; exact hP) (by skip; exact hD) hS (by rw [q_50, q_51]; exact lv_sub hl [2, 1, 0] rfl)

def lsF (g : Nat → Nat → Int32) (n mm : Nat) : Nat × Nat × (Nat → Int32) := flF (exE g n mm) (g 30) (2 ^ mm)

def fX3_least (g : Nat → Nat → Int32) (n mm : Nat) : Int32 × (Nat → Nat → Int32) := (nI (flF (exE g n mm) (g 30) (2 ^ mm)).1, va_up (va_up g 29 (fun _ => nI (flF (exE g n mm) (g 30) (2 ^ mm)).1)) 30 ((flF (exE g n mm) (g 30) (2 ^ mm)).2.2))
set_option maxHeartbeats 4000000 in
set_option maxRecDepth 100000 in
theorem tX3_least (l : Launch) (D : va_G) (cI cZ cC : ClassId) (q : Nat → Nat) (o : Nat) (g : Nat → Nat → Int32) (n : Nat) (hn : g 0 0 = nI n) (hnb : n ≤ 16) (mm : Nat) (hm : g 26 0 = nI mm) (hmb : mm ≤ 10) : WrI l yX3_least wsX3_least (rmK 2) D cI cZ cC [.ref o] (mW cI cZ q o g) (mW cI cZ q o ((fX3_least g n mm).2)) (fun ans => ans = (fX3_least g n mm).1) := by
  refine WrI.of (cc := cX3_least) (maxL := 1) (ret := .int) (by decide) rfl (Nat.le_of_ble_eq_true rfl) ?_
  intro p e s m args below meth c Q A ls hx hb hml hts hown hK hP hD hS hA hret hl
  have hl : lv_has ls 1 [(0, .ref o)] := hl
  have hinX3 : ∀ w ∈ u_ws RX3 TX3 33, w ∈ wsX3_least := (fun w h => List.mem_cons_of_mem _ (List.mem_append_right _ h))
  refine lv_aload_n hx hb dX3_least_0 rfl (lv_at hl 0 rfl) ?_
  refine x_wvW (As := []) (rest := []) ⟨hx, hb, hml, hown, hts⟩ (tX3_findLeast l D cI cZ cC q o g n hn hnb mm hm hmb) (cwV 0 hts gX3_least_X3_findLeast rfl rfl rfl (by decide +kernel) ⟨Nat.le_of_ble_eq_true rfl, Nat.le_of_ble_eq_true rfl⟩) hK (x_recv (ci := 3) hK hP rfl (q0 := 0) rfl) hP hD hS hA rfl hl.1 rfl (Nat.le_of_ble_eq_true rfl) dX3_least_1 ⟨Nat.le_of_ble_eq_true rfl, Nat.le_of_ble_eq_true rfl⟩ (fun H locs hP hD hS => ?_)
  refine lv_aload_n hx hb dX3_least_4 rfl (lv_at hl 0 rfl) ?_
  refine va_get (D := D) (ci := 3) (v := .int (nI (flF (exE g n mm) (g 30) (2 ^ mm)).1)) (C := RX3) (T := TX3) (N := 33) hx hb hts hinX3 hown hK hP 0 rfl rfl 29 (by decide) (hts (.fieldLink RX3 147 "TroubleCodesModel" "listed" "I") (mem_at 1 rfl)) (fun _ h9 => h9) rfl dX3_least_5 ?_
  have es : fX3_least g n mm = (nI (flF (exE g n mm) (g 30) (2 ^ mm)).1, va_up (va_up g 29 (fun _ => nI (flF (exE g n mm) (g 30) (2 ^ mm)).1)) 30 ((flF (exE g n mm) (g 30) (2 ^ mm)).2.2)) := by rw [fX3_least]
  exact hret 8 _ _ _ _ (by rw [es]) (by rw [es]; exact hP) (by rw [es]; exact hD) hS rfl dX3_least_8

def fX3_leastAt (g : Nat → Nat → Int32) (n mm : Nat) (x : Int32) : Int32 × (Nat → Nat → Int32) := if 0 ≤ x ∧ x ≤ ((nI (flF (exE g n mm) (g 30) (2 ^ mm)).1) - 1) then (((flF (exE g n mm) (g 30) (2 ^ mm)).2.2) (ix x), va_up (va_up g 29 (fun _ => nI (flF (exE g n mm) (g 30) (2 ^ mm)).1)) 30 ((flF (exE g n mm) (g 30) (2 ^ mm)).2.2)) else ((-1), va_up (va_up g 29 (fun _ => nI (flF (exE g n mm) (g 30) (2 ^ mm)).1)) 30 ((flF (exE g n mm) (g 30) (2 ^ mm)).2.2))
set_option maxHeartbeats 4000000 in
set_option maxRecDepth 100000 in
theorem tX3_leastAt (l : Launch) (D : va_G) (cI cZ cC : ClassId) (q : Nat → Nat) (o : Nat) (g : Nat → Nat → Int32) (n : Nat) (hn : g 0 0 = nI n) (hnb : n ≤ 16) (mm : Nat) (hm : g 26 0 = nI mm) (hmb : mm ≤ 10) (x : Int32) : WrI l yX3_leastAt wsX3_leastAt (rmK 2) D cI cZ cC [.ref o, .int x] (mW cI cZ q o g) (mW cI cZ q o ((fX3_leastAt g n mm x).2)) (fun ans => ans = (fX3_leastAt g n mm x).1) := by
  refine WrI.of (cc := cX3_leastAt) (maxL := 2) (ret := .int) (by decide) rfl (Nat.le_of_ble_eq_true rfl) ?_
  intro p e s m args below meth c Q A ls hx hb hml hts hown hK hP hD hS hA hret hl
  have hl : lv_has ls 2 [(0, .ref o), (1, .int x)] := hl
  have hinX3 : ∀ w ∈ u_ws RX3 TX3 33, w ∈ wsX3_leastAt := (fun w h => List.mem_cons_of_mem _ (List.mem_append_right _ h))
  refine lv_aload_n hx hb dX3_leastAt_0 rfl (lv_at hl 0 rfl) ?_
  refine x_wvW (As := []) (rest := []) ⟨hx, hb, hml, hown, hts⟩ (tX3_findLeast l D cI cZ cC q o g n hn hnb mm hm hmb) (cwV 0 hts gX3_leastAt_X3_findLeast rfl rfl rfl (by decide +kernel) ⟨Nat.le_of_ble_eq_true rfl, Nat.le_of_ble_eq_true rfl⟩) hK (x_recv (ci := 3) hK hP rfl (q0 := 0) rfl) hP hD hS hA rfl hl.1 rfl (Nat.le_of_ble_eq_true rfl) dX3_leastAt_1 ⟨Nat.le_of_ble_eq_true rfl, Nat.le_of_ble_eq_true rfl⟩ (fun H locs hP hD hS => ?_)
  refine lv_iload_n hx hb dX3_leastAt_4 rfl (lv_at hl 1 rfl) ?_
  refine lv_iconst (v := 0) hx hb dX3_leastAt_5 (by decide) ?_
  refine lv_aload_n hx hb dX3_leastAt_6 rfl (lv_at hl 0 rfl) ?_
  refine va_get (D := D) (ci := 3) (v := .int (nI (flF (exE g n mm) (g 30) (2 ^ mm)).1)) (C := RX3) (T := TX3) (N := 33) hx hb hts hinX3 hown hK hP 0 rfl rfl 29 (by decide) (hts (.fieldLink RX3 147 "TroubleCodesModel" "listed" "I") (mem_at 1 rfl)) (fun _ h9 => h9) rfl dX3_leastAt_7 ?_
  refine lv_iconst (v := 1) hx hb dX3_leastAt_10 (by decide) ?_
  refine lv_isub hx hb dX3_leastAt_11 ?_
  refine x_rdS (As := [.int x, .int 0, .int ((nI (flF (exE g n mm) (g 30) (2 ^ mm)).1) - 1)]) (rest := []) ⟨hx, hb, hml, hown, hts⟩ (tX3_in l D cI cZ cC x 0 ((nI (flF (exE g n mm) (g 30) (2 ^ mm)).1) - 1)) (va_cwS 3 hts gX3_leastAt_X3_in rfl rfl rfl (by decide +kernel) ⟨Nat.le_of_ble_eq_true rfl, Nat.le_of_ble_eq_true rfl⟩) hK trivial rfl hl.1 rfl (Nat.le_of_ble_eq_true rfl) dX3_leastAt_12 ⟨Nat.le_of_ble_eq_true rfl, Nat.le_of_ble_eq_true rfl⟩ (fun r_1 er_1 => ?_)
  have er_1 : r_1 = bI (0 ≤ x ∧ x ≤ ((nI (flF (exE g n mm) (g 30) (2 ^ mm)).1) - 1)) := er_1
  subst er_1
  refine lv_if_eq (tgt := 27) hx hb dX3_leastAt_15 (by decide) (fun c_2 => ?_) (fun c_2 => ?_)
  · have c_2 := bI_eq c_2
    refine lv_iconst (v := (-1)) hx hb dX3_leastAt_27 (by decide) ?_
    have es : fX3_leastAt g n mm x = ((-1), va_up (va_up g 29 (fun _ => nI (flF (exE g n mm) (g 30) (2 ^ mm)).1)) 30 ((flF (exE g n mm) (g 30) (2 ^ mm)).2.2)) := by rw [fX3_leastAt]; rw [if_neg c_2]
    exact hret 28 _ _ _ _ (by rw [es]) (by rw [es]; exact hP) (by rw [es]; exact hD) hS rfl dX3_leastAt_28
  · have c_2 := bI_ne c_2
    have hLb := flF_b (exE g n mm) (g 30) (2 ^ mm)
    obtain ⟨j, hj, ej⟩ := ixck (n := (flF (exE g n mm) (g 30) (2 ^ mm)).1) rfl (by omega) c_2
    subst ej
    have xj : ix (nI j) = j := ix_nI (by omega)
    refine lv_aload_n hx hb dX3_leastAt_18 rfl (lv_at hl 0 rfl) ?_
    refine va_get (D := D) (ci := 3) (v := .ref (q 30)) (C := RX3) (T := TX3) (N := 33) hx hb hts hinX3 hown hK hP 0 rfl rfl 30 (by decide) (hts (.fieldLink RX3 84 "TroubleCodesModel" "list" "[I") (mem_at 2 rfl)) (fun _ h9 => h9) rfl dX3_leastAt_19 ?_
    refine lv_iload_n hx hb dX3_leastAt_22 rfl (lv_at hl 1 rfl) ?_
    refine x_iald (k := j) (f := (flF (exE g n mm) (g 30) (2 ^ mm)).2.2) hx hb hK hP 24 rfl (by omega) (by decide) dX3_leastAt_23 ?_
    refine lv_goto (tgt := 28) hx hb dX3_leastAt_24 (by decide) ?_
    have es : fX3_leastAt g n mm (nI j) = (((flF (exE g n mm) (g 30) (2 ^ mm)).2.2) j, va_up (va_up g 29 (fun _ => nI (flF (exE g n mm) (g 30) (2 ^ mm)).1)) 30 ((flF (exE g n mm) (g 30) (2 ^ mm)).2.2)) := by rw [fX3_leastAt]; simp only [xj]; rw [if_pos c_2]
    exact hret 28 _ _ _ _ (by rw [es]) (by rw [es]; exact hP) (by rw [es]; exact hD) hS rfl dX3_leastAt_28
end
section
theorem or_pow {a i : Nat} (ha : a < 2 ^ i) : a ||| 2 ^ i = a + 2 ^ i := by
  have h := Nat.two_pow_add_eq_or_of_lt ha 1
  rw [Nat.mul_one] at h
  rw [Nat.or_comm, ← h, Nat.add_comm]
theorem nI_or {a b : Nat} : nI a ||| nI b = nI (a ||| b) := by
  apply Int32.toBitVec_inj.mp
  rw [Int32.toBitVec_or]
  show BitVec.ofInt 32 (a : Int) ||| BitVec.ofInt 32 (b : Int) = BitVec.ofInt 32 ((a ||| b : Nat) : Int)
  rw [BitVec.ofInt_natCast, BitVec.ofInt_natCast, BitVec.ofInt_natCast]
  apply BitVec.eq_of_toNat_eq
  simp [BitVec.toNat_or, BitVec.toNat_ofNat, Nat.or_mod_two_pow]
def wiN (li : Nat → Int32) (sb ci : Nat) : Nat → Nat
  | 0 => 0
  | i + 1 => wiN li sb ci i + (if (nI sb >>> (nI i &&& 31)) &&& 1 = 1 ∧ (li i >>> (nI ci &&& 31)) &&& 1 = 1 then 2 ^ i else 0)
theorem wiN_lt (li : Nat → Int32) (sb ci : Nat) : ∀ i, wiN li sb ci i < 2 ^ i
  | 0 => by simp [wiN]
  | i + 1 => by
    have := wiN_lt li sb ci i
    rw [wiN, Nat.pow_succ]
    split <;> omega
theorem bit_a : ∀ (i : Fin 11) (b : Fin 1024), ((nI b.val >>> (nI i.val &&& 31)) &&& 1 = 1) = (b.val / 2 ^ i.val % 2 = 1) := by
  intro i b
  have h1 : nI b.val >>> (nI i.val &&& 31) = nI (b.val / 2 ^ i.val) := pk_shrN (by omega) _ _ (by revert i; decide)
  have h2 : b.val / 2 ^ i.val < 2 ^ 31 := Nat.lt_of_le_of_lt (Nat.div_le_self _ _) (by omega)
  rw [h1, and1N h2, show (1 : Int32) = nI 1 from rfl, nI_eq (by omega) (by decide)]
theorem bit_n {b i : Nat} (hb : b < 1024) (hi : i ≤ 10) : ((nI b >>> (nI i &&& 31)) &&& 1 = 1) = (b / 2 ^ i % 2 = 1) := bit_a ⟨i, by omega⟩ ⟨b, hb⟩
theorem wiN_bit (li : Nat → Int32) (sb ci : Nat) (hs : sb < 1024) : ∀ L, L ≤ 10 → ∀ i, (wiN li sb ci L).testBit i = true → sb.testBit i = true
  | 0, _, i, h => by simp [wiN] at h
  | L + 1, hL, i, h => by
    rw [wiN] at h
    by_cases hc : (nI sb >>> (nI L &&& 31)) &&& 1 = 1 ∧ (li L >>> (nI ci &&& 31)) &&& 1 = 1
    · rw [if_pos hc, ← or_pow (wiN_lt li sb ci L), Nat.testBit_or, Nat.testBit_two_pow] at h
      rcases Bool.or_eq_true_iff.mp h with h | h
      · exact wiN_bit li sb ci hs L (by omega) i h
      · have e : L = i := by simpa using h
        subst e
        have := hc.1
        rw [bit_n hs (by omega)] at this
        rw [Nat.testBit_eq_decide_div_mod_eq]; simp [this]
    · rw [if_neg hc, Nat.add_zero] at h
      exact wiN_bit li sb ci hs L (by omega) i h
theorem sub_of_bits {a b : Nat} (h : ∀ i, a.testBit i = true → b.testBit i = true) : b &&& a = a := by
  apply Nat.eq_of_testBit_eq
  intro i
  rw [Nat.testBit_and]
  cases ha : a.testBit i with
  | false => simp
  | true => simp [h i ha]
theorem andc {a b : Nat} (hb : b < 2 ^ 31) (h : b &&& a = a) : nI b &&& (nI a ^^^ (-1)) = nI (b - a) := by
  have hab : a ≤ b := by have := Nat.and_le_left (n := b) (m := a); omega
  apply Int32.toBitVec_inj.mp
  rw [Int32.toBitVec_and, Int32.toBitVec_xor]
  show BitVec.ofInt 32 (b : Int) &&& (BitVec.ofInt 32 (a : Int) ^^^ (-1 : Int32).toBitVec) = BitVec.ofInt 32 ((b - a : Nat) : Int)
  rw [BitVec.ofInt_natCast, BitVec.ofInt_natCast, BitVec.ofInt_natCast]
  rw [show (-1 : Int32).toBitVec = BitVec.allOnes 32 from by decide, BitVec.xor_allOnes]
  have e : b = (b - a) + a := by omega
  have hd : (b &&& a) = a := h
  apply BitVec.eq_of_toNat_eq
  rw [BitVec.toNat_ofNat, Nat.mod_eq_of_lt (by omega : b - a < 2 ^ 32)]
  have key : BitVec.ofNat 32 b = (BitVec.ofNat 32 b &&& ~~~ BitVec.ofNat 32 a) + BitVec.ofNat 32 a := by
    have h1 : BitVec.ofNat 32 a = BitVec.ofNat 32 b &&& BitVec.ofNat 32 a := by
      apply BitVec.eq_of_toNat_eq
      rw [BitVec.toNat_and, BitVec.toNat_ofNat, BitVec.toNat_ofNat, Nat.mod_eq_of_lt (by omega : a < 2 ^ 32), Nat.mod_eq_of_lt (by omega : b < 2 ^ 32), hd]
    have h2 : (BitVec.ofNat 32 b &&& ~~~ BitVec.ofNat 32 a) &&& BitVec.ofNat 32 a = 0#32 := by
      apply BitVec.eq_of_getLsbD_eq
      intro i hi
      simp only [BitVec.getLsbD_and, BitVec.getLsbD_not, BitVec.getLsbD_zero]
      cases (BitVec.ofNat 32 a).getLsbD i <;> simp
    rw [BitVec.add_eq_or_of_and_eq_zero _ _ h2]
    apply BitVec.eq_of_getLsbD_eq
    intro i hi
    have h3 := congrArg (fun v => BitVec.getLsbD v i) h1
    simp only [BitVec.getLsbD_and, BitVec.getLsbD_or, BitVec.getLsbD_not] at h3 ⊢
    generalize (BitVec.ofNat 32 a).getLsbD i = x at h3 ⊢
    generalize (BitVec.ofNat 32 b).getLsbD i = y at h3 ⊢
    revert h3
    cases x <;> cases y <;> simp [hi]
  have k2 := congrArg BitVec.toNat key
  rw [BitVec.toNat_add, BitVec.toNat_ofNat, BitVec.toNat_ofNat, Nat.mod_eq_of_lt (by omega : a < 2 ^ 32), Nat.mod_eq_of_lt (by omega : b < 2 ^ 32)] at k2
  have hlt : (BitVec.ofNat 32 b &&& ~~~ BitVec.ofNat 32 a).toNat ≤ b := by
    rw [BitVec.toNat_and, BitVec.toNat_ofNat, Nat.mod_eq_of_lt (by omega : b < 2 ^ 32)]
    exact Nat.and_le_left
  rw [Nat.mod_eq_of_lt (by omega)] at k2
  omega
def plI (price li S : Nat → Int32) (L s : Nat) : Nat → Int32 × Int32
  | 0 => (0, -1)
  | i + 1 =>
    if ¬ wiN li s i L = 0 ∧ ¬ wiN li s i L = s ∧ ((plI price li S L s i).2 = -1 ∨ price i * nI (popG 16 s) + S (wiN li s i L) + S (s - wiN li s i L) < (plI price li S L s i).1) then
      (price i * nI (popG 16 s) + S (wiN li s i L) + S (s - wiN li s i L), nI i)
    else plI price li S L s i
def plO (price li : Nat → Int32) (L mm : Nat) (S0 F0 : Nat → Int32) : Nat → (Nat → Int32) × (Nat → Int32)
  | 0 => (S0, F0)
  | s + 1 =>
    (upd (plO price li L mm S0 F0 s).1 s (if 1 < popG 16 s then plI price li (plO price li L mm S0 F0 s).1 L s mm else (0, -1)).1,
     upd (plO price li L mm S0 F0 s).2 s (if 1 < popG 16 s then plI price li (plO price li L mm S0 F0 s).1 L s mm else (0, -1)).2)

theorem nI_or_pow {a i : Nat} (ha : a < 2 ^ i) : nI a ||| nI (2 ^ i) = nI (a + 2 ^ i) := by rw [nI_or, or_pow ha]
theorem nI_or0 (a : Nat) : nI a ||| 0 = nI (a + 0) := by
  rw [Nat.add_zero]; exact (nI_or (a := a) (b := 0)).trans (by rw [Nat.or_zero])

set_option maxHeartbeats 4000000 in
set_option maxRecDepth 100000 in
theorem tX3_with (l : Launch) (D : va_G) (cI cZ cC : ClassId) (q : Nat → Nat) (o : Nat) (g : Nat → Nat → Int32) (L : Nat) (hL : g 29 0 = nI L) (hLb : L ≤ 10) (sb ci : Nat) : RdC l yX3_with wsX3_with (rmK 0) D cI cZ cC [.ref o, .int (nI sb), .int (nI ci)] (fun H => va_P D vwCl (mW cI cZ q o g) H) (fun ans => ans = nI (wiN (g 30) sb ci L)) := by
  refine RdC.of (cc := cX3_with) (maxL := 5) (ret := .int) (by decide) rfl (Nat.le_of_ble_eq_true rfl) ?_
  intro p e s m args below meth c Q ls hx hb hml hts hown hK hP hret hl
  have hl : lv_has ls 5 [(0, .ref o), (1, .int (nI sb)), (2, .int (nI ci))] := hl
  have hP : va_P D vwCl (mW cI cZ q o g) s.heap := hP
  have hinX3 : ∀ w ∈ u_ws RX3 TX3 33, w ∈ wsX3_with := (fun w h => List.mem_cons_of_mem _ (List.mem_append_right _ h))
  refine lv_iconst (v := 0) hx hb dX3_with_0 (by decide) ?_
  refine lv_istore_n (lv' := [(3, .int 0), (0, .ref o), (1, .int (nI sb)), (2, .int (nI ci))]) hx hb dX3_with_1 rfl hl (by decide) rfl (fun ls hl => ?_)
  refine lv_iconst (v := 0) hx hb dX3_with_2 (by decide) ?_
  refine lv_istore (lv' := [(4, .int 0), (3, .int 0), (0, .ref o), (1, .int (nI sb)), (2, .int (nI ci))]) hx hb dX3_with_3 hl (by decide) rfl (fun ls hl => ?_)
  have LOOP_1 : ∀ (fu i : Nat), i ≤ L → L - i < fu → ∀ (ls : Array Slot), lv_has ls 5 [(0, .ref o), (1, .int (nI sb)), (2, .int (nI ci)), (3, .int (nI (wiN (g 30) sb ci i))), (4, .int (nI i))] → W p l e (rmK 0) s m args below meth c s.heap [] 0 0 Q (F0 m 5 ls []) := by
    intro fu
    induction fu with
    | zero => intro i h1 h2; exact absurd h2 (Nat.not_lt_zero _)
    | succ fu ih =>
      intro i hkn hfu  ls hl
      refine lv_iload hx hb dX3_with_5 (lv_at hl 4 rfl) ?_
      refine lv_aload_n hx hb dX3_with_7 rfl (lv_at hl 0 rfl) ?_
      refine va_get (D := D) (ci := 3) (v := .int (g 29 0)) (C := RX3) (T := TX3) (N := 33) hx hb hts hinX3 hown hK hP 0 rfl rfl 29 (by decide) (hts (.fieldLink RX3 147 "TroubleCodesModel" "listed" "I") (mem_at 1 rfl)) (fun _ h9 => h9) rfl dX3_with_8 ?_
      refine lv_icmp_ge (tgt := 56) hx hb dX3_with_11 (by decide) (fun c_2 => ?_) (fun c_2 => ?_)
      · have ekn : L = i := Nat.le_antisymm (kx_ge hL (by omega) (by omega) c_2) hkn
        subst ekn
        refine lv_iload_n hx hb dX3_with_56 rfl (lv_at hl 3 rfl) ?_
        exact hret 57 _ _ (rfl) rfl dX3_with_57
      · have hil : i < L := kx_lt hL (by omega) (by omega) c_2
        refine lv_iload_n hx hb dX3_with_14 rfl (lv_at hl 3 rfl) ?_
        refine lv_iload_n hx hb dX3_with_15 rfl (lv_at hl 1 rfl) ?_
        refine lv_iload hx hb dX3_with_16 (lv_at hl 4 rfl) ?_
        refine lv_ishr hx hb dX3_with_18 ?_
        refine lv_iconst (v := 1) hx hb dX3_with_19 (by decide) ?_
        refine lv_iand hx hb dX3_with_20 ?_
        refine lv_iconst (v := 1) hx hb dX3_with_21 (by decide) ?_
        refine lv_icmp_ne (tgt := 47) hx hb dX3_with_22 (by decide) (fun c_3 => ?_) (fun c_3 => ?_)
        · refine lv_iconst (v := 0) hx hb dX3_with_47 (by decide) ?_
          refine lv_ior hx hb dX3_with_48 ?_
          refine lv_istore_n (lv' := [(3, .int ((nI (wiN (g 30) sb ci i)) ||| 0)), (0, .ref o), (1, .int (nI sb)), (2, .int (nI ci)), (4, .int (nI i))]) hx hb dX3_with_49 rfl hl (by decide) rfl (fun ls hl => ?_)
          refine lv_iinc (v := nI (i + 1)) (lv' := [(4, .int (nI (i + 1))), (3, .int ((nI (wiN (g 30) sb ci i)) ||| 0)), (0, .ref o), (1, .int (nI sb)), (2, .int (nI ci))]) hx hb dX3_with_50 hl (k := 4) rfl (nI_1 _) (by decide) rfl (fun ls hl => ?_)
          refine lv_goto (tgt := 5) hx hb dX3_with_53 (by decide) ?_
          have q_4 : (nI (wiN (g 30) sb ci (i + 1)) : Int32) = (nI (wiN (g 30) sb ci i)) ||| 0 := by rw [wiN, if_neg (fun h => c_3 h.1)]; exact (nI_or0 _).symm
          exact ih (i + 1) (by omega) (by omega) ls (by rw [q_4]; exact lv_sub hl [2, 3, 4, 1, 0] rfl)
        · refine lv_aload_n hx hb dX3_with_25 rfl (lv_at hl 0 rfl) ?_
          refine va_get (D := D) (ci := 3) (v := .ref (q 30)) (C := RX3) (T := TX3) (N := 33) hx hb hts hinX3 hown hK hP 0 rfl rfl 30 (by decide) (hts (.fieldLink RX3 84 "TroubleCodesModel" "list" "[I") (mem_at 2 rfl)) (fun _ h9 => h9) rfl dX3_with_26 ?_
          refine lv_iload hx hb dX3_with_29 (lv_at hl 4 rfl) ?_
          refine x_iald (k := i) (f := g 30) hx hb hK hP 24 rfl (by omega) (by decide) dX3_with_31 ?_
          refine lv_iload_n hx hb dX3_with_32 rfl (lv_at hl 2 rfl) ?_
          refine lv_ishr hx hb dX3_with_33 ?_
          refine lv_iconst (v := 1) hx hb dX3_with_34 (by decide) ?_
          refine lv_iand hx hb dX3_with_35 ?_
          refine lv_iconst (v := 1) hx hb dX3_with_36 (by decide) ?_
          refine lv_icmp_ne (tgt := 47) hx hb dX3_with_37 (by decide) (fun c_5 => ?_) (fun c_5 => ?_)
          · refine lv_iconst (v := 0) hx hb dX3_with_47 (by decide) ?_
            refine lv_ior hx hb dX3_with_48 ?_
            refine lv_istore_n (lv' := [(3, .int ((nI (wiN (g 30) sb ci i)) ||| 0)), (0, .ref o), (1, .int (nI sb)), (2, .int (nI ci)), (4, .int (nI i))]) hx hb dX3_with_49 rfl hl (by decide) rfl (fun ls hl => ?_)
            refine lv_iinc (v := nI (i + 1)) (lv' := [(4, .int (nI (i + 1))), (3, .int ((nI (wiN (g 30) sb ci i)) ||| 0)), (0, .ref o), (1, .int (nI sb)), (2, .int (nI ci))]) hx hb dX3_with_50 hl (k := 4) rfl (nI_1 _) (by decide) rfl (fun ls hl => ?_)
            refine lv_goto (tgt := 5) hx hb dX3_with_53 (by decide) ?_
            have q_6 : (nI (wiN (g 30) sb ci (i + 1)) : Int32) = (nI (wiN (g 30) sb ci i)) ||| 0 := by rw [wiN, if_neg (fun h => c_5 h.2)]; exact (nI_or0 _).symm
            exact ih (i + 1) (by omega) (by omega) ls (by rw [q_6]; exact lv_sub hl [2, 3, 4, 1, 0] rfl)
          · refine lv_iconst (v := 1) hx hb dX3_with_40 (by decide) ?_
            refine lv_iload hx hb dX3_with_41 (lv_at hl 4 rfl) ?_
            refine lv_ishl hx hb dX3_with_43 ?_
            rw [shl1 (m := i) (by omega)]
            refine lv_goto (tgt := 48) hx hb dX3_with_44 (by decide) ?_
            refine lv_ior hx hb dX3_with_48 ?_
            refine lv_istore_n (lv' := [(3, .int ((nI (wiN (g 30) sb ci i)) ||| (nI (2 ^ i)))), (0, .ref o), (1, .int (nI sb)), (2, .int (nI ci)), (4, .int (nI i))]) hx hb dX3_with_49 rfl hl (by decide) rfl (fun ls hl => ?_)
            refine lv_iinc (v := nI (i + 1)) (lv' := [(4, .int (nI (i + 1))), (3, .int ((nI (wiN (g 30) sb ci i)) ||| (nI (2 ^ i)))), (0, .ref o), (1, .int (nI sb)), (2, .int (nI ci))]) hx hb dX3_with_50 hl (k := 4) rfl (nI_1 _) (by decide) rfl (fun ls hl => ?_)
            refine lv_goto (tgt := 5) hx hb dX3_with_53 (by decide) ?_
            have q_7 : (nI (wiN (g 30) sb ci (i + 1)) : Int32) = (nI (wiN (g 30) sb ci i)) ||| (nI (2 ^ i)) := by rw [wiN, if_pos ⟨c_3, c_5⟩, ← nI_or_pow (wiN_lt (g 30) sb ci i)]
            exact ih (i + 1) (by omega) (by omega) ls (by rw [q_7]; exact lv_sub hl [2, 3, 4, 1, 0] rfl)
  have q_8 : (nI (wiN (g 30) sb ci 0) : Int32) = 0 := by rfl
  have q_9 : (nI 0 : Int32) = 0 := by rfl
  exact LOOP_1 (L - 0 + 1) 0 (Nat.zero_le _) (Nat.lt_succ_self _) ls (by rw [q_8, q_9]; exact lv_sub hl [2, 3, 4, 1, 0] rfl)

theorem upd_upd {f : Nat → Int32} {k : Nat} {x y : Int32} : upd (upd f k x) k y = upd f k y := by
  funext j
  by_cases h : j = k
  · simp [upd, h]
  · simp [upd, h]

def fX3_plans (g : Nat → Nat → Int32) (L mm : Nat) : Nat → Nat → Int32 := va_up (va_up g 31 (plO (g 28) (g 30) L mm (g 31) (g 32) (2 ^ L)).1) 32 (plO (g 28) (g 30) L mm (g 31) (g 32) (2 ^ L)).2

set_option maxHeartbeats 4000000 in
set_option maxRecDepth 100000 in
theorem tX3_plans (l : Launch) (D : va_G) (cI cZ cC : ClassId) (q : Nat → Nat) (o : Nat) (g : Nat → Nat → Int32) (n : Nat) (hn : g 0 0 = nI n) (hnb : n ≤ 16) (mm : Nat) (hm : g 26 0 = nI mm) (hmb : mm ≤ 10) (L : Nat) (hL : g 29 0 = nI L) (hLb : L ≤ 10) : WrV l yX3_plans wsX3_plans (rmK 1) D cI cZ cC [.ref o] (mW cI cZ q o g) (mW cI cZ q o (fX3_plans g L mm)) := by
  refine WrV.of (cc := cX3_plans) (maxL := 5) (by decide) rfl (Nat.le_of_ble_eq_true rfl) ?_
  intro p e s m args below meth c Q A ls hx hb hml hts hown hK hP hD hS hA hret hl
  have hl : lv_has ls 5 [(0, .ref o)] := hl
  have hinX3 : ∀ w ∈ u_ws RX3 TX3 33, w ∈ wsX3_plans := (fun w h => List.mem_cons_of_mem _ (List.mem_append_right _ h))
  refine lv_iconst (v := 0) hx hb dX3_plans_0 (by decide) ?_
  refine lv_istore_n (lv' := [(1, .int 0), (0, .ref o)]) hx hb dX3_plans_1 rfl hl (by decide) rfl (fun ls hl => ?_)
  have LOOP_1 : ∀ (fu s1 : Nat), s1 ≤ 2 ^ L → 2 ^ L - s1 < fu → ∀ (H : Heap) (locs : List Loc) (ls : Array Slot), va_P D vwCl (mW cI cZ q o (va_up (va_up g 31 ((plO (g 28) (g 30) L mm (g 31) (g 32) s1).1)) 32 ((plO (g 28) (g 30) L mm (g 31) (g 32) s1).2))) H → va_D A (mW cI cZ q o (va_up (va_up g 31 ((plO (g 28) (g 30) L mm (g 31) (g 32) s1).1)) 32 ((plO (g 28) (g 30) L mm (g 31) (g 32) s1).2))) → va_S A s.heap H locs → lv_has ls 5 [(0, .ref o), (1, .int (nI s1))] → W p l e (rmK 1) s m args below meth c H locs 0 0 Q (F0 m 2 ls []) := by
    intro fu
    induction fu with
    | zero => intro s1 h1 h2; exact absurd h2 (Nat.not_lt_zero _)
    | succ fu ih =>
      intro s1 hkn hfu  H locs ls hP hD hS hl
      refine lv_iload_n hx hb dX3_plans_2 rfl (lv_at hl 1 rfl) ?_
      refine lv_iconst (v := 1) hx hb dX3_plans_3 (by decide) ?_
      refine lv_aload_n hx hb dX3_plans_4 rfl (lv_at hl 0 rfl) ?_
      refine va_get (D := D) (ci := 3) (v := .int (g 29 0)) (C := RX3) (T := TX3) (N := 33) hx hb hts hinX3 hown hK hP 0 rfl rfl 29 (by decide) (hts (.fieldLink RX3 147 "TroubleCodesModel" "listed" "I") (mem_at 1 rfl)) (fun _ h9 => h9) rfl dX3_plans_5 ?_
      refine lv_ishl hx hb dX3_plans_8 ?_
      rw [shl1x hL (by omega)]
      refine lv_icmp_ge (tgt := 139) hx hb dX3_plans_9 (by decide) (fun c_2 => ?_) (fun c_2 => ?_)
      · have ekn : 2 ^ L = s1 := Nat.le_antisymm (kx_ge (x := nI (2 ^ L)) rfl (by have := pow_le10 hLb; omega) (by have := pow_le10 hLb; omega) c_2) hkn
        subst ekn
        exact hret 139 _ _ _ hP hD hS dX3_plans_139
      · have hzl : s1 < 2 ^ L := kx_lt (x := nI (2 ^ L)) rfl (by have := pow_le10 hLb; omega) (by have := pow_le10 hLb; omega) c_2
        obtain ⟨S, hSe⟩ : ∃ S, S = (plO (g 28) (g 30) L mm (g 31) (g 32) s1).1 := ⟨_, rfl⟩
        obtain ⟨F, hFe⟩ : ∃ F, F = (plO (g 28) (g 30) L mm (g 31) (g 32) s1).2 := ⟨_, rfl⟩
        rw [← hSe, ← hFe] at hP hD
        have hs10 : s1 < 1024 := by have := pow_le10 hLb; omega
        have hps := popG_le 16 s1
        refine lv_aload_n hx hb dX3_plans_12 rfl (lv_at hl 0 rfl) ?_
        refine va_get (D := D) (ci := 3) (v := .ref (q 31)) (C := RX3) (T := TX3) (N := 33) hx hb hts hinX3 hown hK hP 0 rfl rfl 31 (by decide) (hts (.fieldLink RX3 87 "TroubleCodesModel" "sum" "[I") (mem_at 2 rfl)) (fun _ h9 => h9) rfl dX3_plans_13 ?_
        refine lv_iload_n hx hb dX3_plans_16 rfl (lv_at hl 1 rfl) ?_
        refine lv_iconst (v := 0) hx hb dX3_plans_17 (by decide) ?_
        refine x_iast (k := s1) (f := S) (x := 0) hx hb hK hP hD hS 25 rfl (by omega) (by decide) dX3_plans_18 (fun H locs hP hD hS => ?_)
        have hP : va_P D vwCl (mW cI cZ q o (va_up (va_up g 31 (upd S s1 0)) 32 F)) H := hP
        have hD : va_D A (mW cI cZ q o (va_up (va_up g 31 (upd S s1 0)) 32 F)) := hD
        refine lv_aload_n hx hb dX3_plans_19 rfl (lv_at hl 0 rfl) ?_
        refine va_get (D := D) (ci := 3) (v := .ref (q 32)) (C := RX3) (T := TX3) (N := 33) hx hb hts hinX3 hown hK hP 0 rfl rfl 32 (by decide) (hts (.fieldLink RX3 90 "TroubleCodesModel" "first" "[I") (mem_at 3 rfl)) (fun _ h9 => h9) rfl dX3_plans_20 ?_
        refine lv_iload_n hx hb dX3_plans_23 rfl (lv_at hl 1 rfl) ?_
        refine lv_iconst (v := (-1)) hx hb dX3_plans_24 (by decide) ?_
        refine x_iast (k := s1) (f := F) (x := (-1)) hx hb hK hP hD hS 26 rfl (by omega) (by decide) dX3_plans_25 (fun H locs hP hD hS => ?_)
        have hP : va_P D vwCl (mW cI cZ q o (va_up (va_up g 31 (upd S s1 0)) 32 (upd F s1 (-1)))) H := hP
        have hD : va_D A (mW cI cZ q o (va_up (va_up g 31 (upd S s1 0)) 32 (upd F s1 (-1)))) := hD
        refine lv_iconst (v := 0) hx hb dX3_plans_26 (by decide) ?_
        refine lv_istore_n (lv' := [(2, .int 0), (0, .ref o), (1, .int (nI s1))]) hx hb dX3_plans_27 rfl hl (by decide) rfl (fun ls hl => ?_)
        have LOOP_3 : ∀ (fu i : Nat), i ≤ mm → mm - i < fu → ∀ (H : Heap) (locs : List Loc) (ls : Array Slot), va_P D vwCl (mW cI cZ q o (va_up (va_up g 31 (upd S s1 (if 1 < popG 16 s1 then plI (g 28) (g 30) S L s1 i else (0, -1)).1)) 32 (upd F s1 (if 1 < popG 16 s1 then plI (g 28) (g 30) S L s1 i else (0, -1)).2))) H → va_D A (mW cI cZ q o (va_up (va_up g 31 (upd S s1 (if 1 < popG 16 s1 then plI (g 28) (g 30) S L s1 i else (0, -1)).1)) 32 (upd F s1 (if 1 < popG 16 s1 then plI (g 28) (g 30) S L s1 i else (0, -1)).2))) → va_S A s.heap H locs → lv_has ls 5 [(0, .ref o), (1, .int (nI s1)), (2, .int (nI i))] → W p l e (rmK 1) s m args below meth c H locs 0 0 Q (F0 m 28 ls []) := by
          intro fu
          induction fu with
          | zero => intro i h1 h2; exact absurd h2 (Nat.not_lt_zero _)
          | succ fu ih2 =>
            intro i hkn hfu  H locs ls hP hD hS hl
            refine lv_iload_n hx hb dX3_plans_28 rfl (lv_at hl 2 rfl) ?_
            refine lv_aload_n hx hb dX3_plans_29 rfl (lv_at hl 0 rfl) ?_
            refine va_get (D := D) (ci := 3) (v := .int (g 26 0)) (C := RX3) (T := TX3) (N := 33) hx hb hts hinX3 hown hK hP 0 rfl rfl 26 (by decide) (hts (.fieldLink RX3 141 "TroubleCodesModel" "causes" "I") (mem_at 4 rfl)) (fun _ h9 => h9) rfl dX3_plans_30 ?_
            refine lv_icmp_ge (tgt := 133) hx hb dX3_plans_33 (by decide) (fun c_4 => ?_) (fun c_4 => ?_)
            · have ekn : mm = i := Nat.le_antisymm (kx_ge hm (by omega) (by omega) c_4) hkn2
              subst ekn
              refine lv_iinc (v := nI (s1 + 1)) (lv' := [(1, .int (nI (s1 + 1))), (0, .ref o), (2, .int (nI mm))]) hx hb dX3_plans_133 hl (k := 1) rfl (nI_1 _) (by decide) rfl (fun ls hl => ?_)
              refine lv_goto (tgt := 2) hx hb dX3_plans_136 (by decide) ?_
              have q_5 : va_up (va_up g 31 ((plO (g 28) (g 30) L mm (g 31) (g 32) (s1 + 1)).1)) 32 ((plO (g 28) (g 30) L mm (g 31) (g 32) (s1 + 1)).2) = va_up (va_up g 31 (upd S s1 (if 1 < popG 16 s1 then plI (g 28) (g 30) S L s1 mm else (0, -1)).1)) 32 (upd F s1 (if 1 < popG 16 s1 then plI (g 28) (g 30) S L s1 mm else (0, -1)).2) := by rw [plO, ← hSe, ← hFe]
              exact ih (s1 + 1) (by omega) (by omega) H locs ls (by rw [q_5]; exact hP) (by rw [q_5]; exact hD) hS (by exact lv_sub hl [1, 0] rfl)
            · have hil : i < mm := kx_lt hm (by omega) (by omega) c_4
              refine lv_iload_n hx hb dX3_plans_36 rfl (lv_at hl 1 rfl) ?_
              refine x_rdS (As := [.int (nI s1)]) (rest := []) ⟨hx, hb, hml, hown, hts⟩ (tX3_many l D cI cZ cC s1 (by omega)) (va_cwS 1 hts gX3_plans_X3_many rfl rfl rfl (by decide +kernel) ⟨Nat.le_of_ble_eq_true rfl, Nat.le_of_ble_eq_true rfl⟩) hK trivial rfl hl.1 rfl (Nat.le_of_ble_eq_true rfl) dX3_plans_37 ⟨Nat.le_of_ble_eq_true rfl, Nat.le_of_ble_eq_true rfl⟩ (fun r_6 er_6 => ?_)
              have er_6 : r_6 = nI (popG 16 s1) := er_6
              subst er_6
              refine lv_iconst (v := 1) hx hb dX3_plans_40 (by decide) ?_
              refine lv_icmp_le (tgt := 133) hx hb dX3_plans_41 (by decide) (fun c_7 => ?_) (fun c_7 => ?_)
              · have hp1 : ¬ 1 < popG 16 s1 := fun h => absurd h (Nat.not_lt.mpr ((nI_leI (b := 1) (by omega) (by decide)).mp c_7))
                rw [if_neg hp1] at hP hD
                have hP : va_P D vwCl (mW cI cZ q o (va_up (va_up g 31 (upd S s1 0)) 32 (upd F s1 (-1)))) H := hP
                have hD : va_D A (mW cI cZ q o (va_up (va_up g 31 (upd S s1 0)) 32 (upd F s1 (-1)))) := hD
                refine lv_iinc (v := nI (s1 + 1)) (lv' := [(1, .int (nI (s1 + 1))), (0, .ref o), (2, .int (nI i))]) hx hb dX3_plans_133 hl (k := 1) rfl (nI_1 _) (by decide) rfl (fun ls hl => ?_)
                refine lv_goto (tgt := 2) hx hb dX3_plans_136 (by decide) ?_
                have q_8 : va_up (va_up g 31 ((plO (g 28) (g 30) L mm (g 31) (g 32) (s1 + 1)).1)) 32 ((plO (g 28) (g 30) L mm (g 31) (g 32) (s1 + 1)).2) = va_up (va_up g 31 (upd S s1 0)) 32 (upd F s1 (-1)) := by rw [plO, ← hSe, ← hFe, if_neg hp1]
                exact ih (s1 + 1) (by omega) (by omega) H locs ls (by rw [q_8]; exact hP) (by rw [q_8]; exact hD) hS (by exact lv_sub hl [1, 0] rfl)
              · have hp1 : 1 < popG 16 s1 := Nat.lt_of_not_le (fun h => c_7 ((nI_leI (b := 1) (by omega) (by decide)).mpr h))
                have hwl := wiN_lt (g 30) s1 i L
                have hwb : wiN (g 30) s1 i L < 1024 := by have := pow_le10 hLb; omega
                have hsub := sub_of_bits (wiN_bit (g 30) s1 i hs10 L hLb)
                have hle : wiN (g 30) s1 i L ≤ s1 := by have := Nat.and_le_left (n := s1) (m := wiN (g 30) s1 i L); omega
                obtain ⟨pa, pb, hpl⟩ : ∃ pa pb, plI (g 28) (g 30) S L s1 i = (pa, pb) := ⟨_, _, rfl⟩
                rw [if_pos hp1, hpl] at hP hD
                have hP : va_P D vwCl (mW cI cZ q o (va_up (va_up g 31 (upd S s1 pa)) 32 (upd F s1 pb))) H := hP
                have hD : va_D A (mW cI cZ q o (va_up (va_up g 31 (upd S s1 pa)) 32 (upd F s1 pb))) := hD
                refine lv_aload_n hx hb dX3_plans_44 rfl (lv_at hl 0 rfl) ?_
                refine lv_iload_n hx hb dX3_plans_45 rfl (lv_at hl 1 rfl) ?_
                refine lv_iload_n hx hb dX3_plans_46 rfl (lv_at hl 2 rfl) ?_
                refine x_rdV (As := [.int (nI s1), .int (nI i)]) (rest := []) ⟨hx, hb, hml, hown, hts⟩ (tX3_with l D cI cZ cC q o (va_up (va_up g 31 (upd S s1 pa)) 32 (upd F s1 pb)) L hL hLb s1 i) (cwV 2 hts gX3_plans_X3_with rfl rfl rfl (by decide +kernel) ⟨Nat.le_of_ble_eq_true rfl, Nat.le_of_ble_eq_true rfl⟩) hK (x_recv (ci := 3) hK hP rfl (q0 := 0) rfl) hP rfl hl.1 rfl (Nat.le_of_ble_eq_true rfl) dX3_plans_47 ⟨Nat.le_of_ble_eq_true rfl, Nat.le_of_ble_eq_true rfl⟩ (fun r_9 er_9 => ?_)
                have er_9 : r_9 = nI (wiN (g 30) s1 i L) := er_9
                subst er_9
                refine lv_istore_n (lv' := [(3, .int (nI (wiN (g 30) s1 i L))), (0, .ref o), (1, .int (nI s1)), (2, .int (nI i))]) hx hb dX3_plans_50 rfl hl (by decide) rfl (fun ls hl => ?_)
                refine lv_iload_n hx hb dX3_plans_51 rfl (lv_at hl 0 rfl) ?_
                refine lv_if_eq (tgt := 127) hx hb dX3_plans_52 (by decide) (fun c_10 => ?_) (fun c_10 => ?_)
                · refine lv_iinc (v := nI (i + 1)) (lv' := [(2, .int (nI (i + 1))), (3, .int (nI (wiN (g 30) s1 i L))), (0, .ref o), (1, .int (nI s1))]) hx hb dX3_plans_127 hl (k := 3) rfl (nI_1 _) (by decide) rfl (fun ls hl => ?_)
                  refine lv_goto (tgt := 28) hx hb dX3_plans_130 (by decide) ?_
                  have hq_11 : plI (g 28) (g 30) S L s1 (i + 1) = (pa, pb) := by rw [plI, if_neg (fun h => h.1 ((nI_eq (b := 0) (by omega) (by decide)).mp c_10)), hpl]
                  have q_12 : va_up (va_up g 31 (upd S s1 (if 1 < popG 16 s1 then plI (g 28) (g 30) S L s1 (i + 1) else (0, -1)).1)) 32 (upd F s1 (if 1 < popG 16 s1 then plI (g 28) (g 30) S L s1 (i + 1) else (0, -1)).2) = va_up (va_up g 31 (upd S s1 pa)) 32 (upd F s1 pb) := by rw [if_pos hp1, hq_11]
                  exact ih2 (i + 1) (by omega) (by omega) H locs ls (by rw [q_12]; exact hP) (by rw [q_12]; exact hD) hS (by exact lv_sub hl [2, 3, 0] rfl)
                · refine lv_iload_n hx hb dX3_plans_55 rfl (lv_at hl 0 rfl) ?_
                  refine lv_iload_n hx hb dX3_plans_56 rfl (lv_at hl 2 rfl) ?_
                  refine lv_icmp_eq (tgt := 127) hx hb dX3_plans_57 (by decide) (fun c_13 => ?_) (fun c_13 => ?_)
                  · refine lv_iinc (v := nI (i + 1)) (lv' := [(2, .int (nI (i + 1))), (3, .int (nI (wiN (g 30) s1 i L))), (0, .ref o), (1, .int (nI s1))]) hx hb dX3_plans_127 hl (k := 3) rfl (nI_1 _) (by decide) rfl (fun ls hl => ?_)
                    refine lv_goto (tgt := 28) hx hb dX3_plans_130 (by decide) ?_
                    have hq_14 : plI (g 28) (g 30) S L s1 (i + 1) = (pa, pb) := by rw [plI, if_neg (fun h => h.2.1 ((nI_eq (by omega) (by omega)).mp c_13)), hpl]
                    have q_15 : va_up (va_up g 31 (upd S s1 (if 1 < popG 16 s1 then plI (g 28) (g 30) S L s1 (i + 1) else (0, -1)).1)) 32 (upd F s1 (if 1 < popG 16 s1 then plI (g 28) (g 30) S L s1 (i + 1) else (0, -1)).2) = va_up (va_up g 31 (upd S s1 pa)) 32 (upd F s1 pb) := by rw [if_pos hp1, hq_14]
                    exact ih2 (i + 1) (by omega) (by omega) H locs ls (by rw [q_15]; exact hP) (by rw [q_15]; exact hD) hS (by exact lv_sub hl [2, 3, 0] rfl)
                  · refine lv_aload_n hx hb dX3_plans_60 rfl (lv_at hl 1 rfl) ?_
                    refine va_get (D := D) (ci := 3) (v := .ref (q 28)) (C := RX3) (T := TX3) (N := 33) hx hb hts hinX3 hown hK hP 0 rfl rfl 28 (by decide) (hts (.fieldLink RX3 81 "TroubleCodesModel" "price" "[I") (mem_at 5 rfl)) (fun _ h9 => h9) rfl dX3_plans_61 ?_
                    refine lv_iload_n hx hb dX3_plans_64 rfl (lv_at hl 3 rfl) ?_
                    refine x_iald (k := i) (f := g 28) hx hb hK hP 23 rfl (by omega) (by decide) dX3_plans_65 ?_
                    refine lv_iload_n hx hb dX3_plans_66 rfl (lv_at hl 2 rfl) ?_
                    refine x_rdS (As := [.int (nI s1)]) (rest := [.int (g 28 i)]) ⟨hx, hb, hml, hown, hts⟩ (tX3_many l D cI cZ cC s1 (by omega)) (va_cwS 1 hts gX3_plans_X3_many rfl rfl rfl (by decide +kernel) ⟨Nat.le_of_ble_eq_true rfl, Nat.le_of_ble_eq_true rfl⟩) hK trivial rfl hl.1 rfl (Nat.le_of_ble_eq_true rfl) dX3_plans_67 ⟨Nat.le_of_ble_eq_true rfl, Nat.le_of_ble_eq_true rfl⟩ (fun r_16 er_16 => ?_)
                    have er_16 : r_16 = nI (popG 16 s1) := er_16
                    subst er_16
                    refine lv_imul hx hb dX3_plans_70 ?_
                    refine lv_aload_n hx hb dX3_plans_71 rfl (lv_at hl 1 rfl) ?_
                    refine va_get (D := D) (ci := 3) (v := .ref (q 31)) (C := RX3) (T := TX3) (N := 33) hx hb hts hinX3 hown hK hP 0 rfl rfl 31 (by decide) (hts (.fieldLink RX3 87 "TroubleCodesModel" "sum" "[I") (mem_at 2 rfl)) (fun _ h9 => h9) rfl dX3_plans_72 ?_
                    refine lv_iload_n hx hb dX3_plans_75 rfl (lv_at hl 0 rfl) ?_
                    refine x_iald (k := (wiN (g 30) s1 i L)) (f := upd S s1 pa) hx hb hK hP 25 rfl (by omega) (by decide) dX3_plans_76 ?_
                    rw [pk_un (show wiN (g 30) s1 i L ≠ s1 from fun h => c_13 (by rw [h]))]
                    refine lv_iadd hx hb dX3_plans_77 ?_
                    refine lv_aload_n hx hb dX3_plans_78 rfl (lv_at hl 1 rfl) ?_
                    refine va_get (D := D) (ci := 3) (v := .ref (q 31)) (C := RX3) (T := TX3) (N := 33) hx hb hts hinX3 hown hK hP 0 rfl rfl 31 (by decide) (hts (.fieldLink RX3 87 "TroubleCodesModel" "sum" "[I") (mem_at 2 rfl)) (fun _ h9 => h9) rfl dX3_plans_79 ?_
                    refine lv_iload_n hx hb dX3_plans_82 rfl (lv_at hl 2 rfl) ?_
                    refine lv_iload_n hx hb dX3_plans_83 rfl (lv_at hl 0 rfl) ?_
                    refine lv_iconst (v := (-1)) hx hb dX3_plans_84 (by decide) ?_
                    refine lv_ixor hx hb dX3_plans_85 ?_
                    refine lv_iand hx hb dX3_plans_86 ?_
                    rw [andc (by omega) hsub]
                    refine x_iald (k := (s1 - wiN (g 30) s1 i L)) (f := upd S s1 pa) hx hb hK hP 25 rfl (by omega) (by decide) dX3_plans_87 ?_
                    rw [pk_un (show s1 - wiN (g 30) s1 i L ≠ s1 from fun h => c_10 (by rw [show wiN (g 30) s1 i L = 0 by omega]; rfl))]
                    refine lv_iadd hx hb dX3_plans_88 ?_
                    refine lv_istore (lv' := [(4, .int ((((g 28 i) * (nI (popG 16 s1))) + (S (wiN (g 30) s1 i L))) + (S (s1 - wiN (g 30) s1 i L)))), (3, .int (nI (wiN (g 30) s1 i L))), (0, .ref o), (1, .int (nI s1)), (2, .int (nI i))]) hx hb dX3_plans_89 hl (by decide) rfl (fun ls hl => ?_)
                    refine lv_aload_n hx hb dX3_plans_91 rfl (lv_at hl 2 rfl) ?_
                    refine va_get (D := D) (ci := 3) (v := .ref (q 32)) (C := RX3) (T := TX3) (N := 33) hx hb hts hinX3 hown hK hP 0 rfl rfl 32 (by decide) (hts (.fieldLink RX3 90 "TroubleCodesModel" "first" "[I") (mem_at 3 rfl)) (fun _ h9 => h9) rfl dX3_plans_92 ?_
                    refine lv_iload_n hx hb dX3_plans_95 rfl (lv_at hl 3 rfl) ?_
                    refine x_iald (k := s1) (f := upd F s1 pb) hx hb hK hP 26 rfl (by omega) (by decide) dX3_plans_96 ?_
                    rw [pk_us]
                    refine lv_iconst (v := (-1)) hx hb dX3_plans_97 (by decide) ?_
                    refine lv_icmp_eq (tgt := 112) hx hb dX3_plans_98 (by decide) (fun c_17 => ?_) (fun c_17 => ?_)
                    · refine lv_aload_n hx hb dX3_plans_112 rfl (lv_at hl 2 rfl) ?_
                      refine va_get (D := D) (ci := 3) (v := .ref (q 31)) (C := RX3) (T := TX3) (N := 33) hx hb hts hinX3 hown hK hP 0 rfl rfl 31 (by decide) (hts (.fieldLink RX3 87 "TroubleCodesModel" "sum" "[I") (mem_at 2 rfl)) (fun _ h9 => h9) rfl dX3_plans_113 ?_
                      refine lv_iload_n hx hb dX3_plans_116 rfl (lv_at hl 3 rfl) ?_
                      refine lv_iload hx hb dX3_plans_117 (lv_at hl 0 rfl) ?_
                      refine x_iast (k := s1) (f := upd S s1 pa) (x := (((g 28 i) * (nI (popG 16 s1))) + (S (wiN (g 30) s1 i L))) + (S (s1 - wiN (g 30) s1 i L))) hx hb hK hP hD hS 25 rfl (by omega) (by decide) dX3_plans_119 (fun H locs hP hD hS => ?_)
                      have hP : va_P D vwCl (mW cI cZ q o (va_up (va_up g 31 (upd (upd S s1 pa) s1 ((((g 28 i) * (nI (popG 16 s1))) + (S (wiN (g 30) s1 i L))) + (S (s1 - wiN (g 30) s1 i L))))) 32 (upd F s1 pb))) H := hP
                      have hD : va_D A (mW cI cZ q o (va_up (va_up g 31 (upd (upd S s1 pa) s1 ((((g 28 i) * (nI (popG 16 s1))) + (S (wiN (g 30) s1 i L))) + (S (s1 - wiN (g 30) s1 i L))))) 32 (upd F s1 pb))) := hD
                      refine lv_aload_n hx hb dX3_plans_120 rfl (lv_at hl 2 rfl) ?_
                      refine va_get (D := D) (ci := 3) (v := .ref (q 32)) (C := RX3) (T := TX3) (N := 33) hx hb hts hinX3 hown hK hP 0 rfl rfl 32 (by decide) (hts (.fieldLink RX3 90 "TroubleCodesModel" "first" "[I") (mem_at 3 rfl)) (fun _ h9 => h9) rfl dX3_plans_121 ?_
                      refine lv_iload_n hx hb dX3_plans_124 rfl (lv_at hl 3 rfl) ?_
                      refine lv_iload_n hx hb dX3_plans_125 rfl (lv_at hl 4 rfl) ?_
                      refine x_iast (k := s1) (f := upd F s1 pb) (x := nI i) hx hb hK hP hD hS 26 rfl (by omega) (by decide) dX3_plans_126 (fun H locs hP hD hS => ?_)
                      have hP : va_P D vwCl (mW cI cZ q o (va_up (va_up g 31 (upd (upd S s1 pa) s1 ((((g 28 i) * (nI (popG 16 s1))) + (S (wiN (g 30) s1 i L))) + (S (s1 - wiN (g 30) s1 i L))))) 32 (upd (upd F s1 pb) s1 (nI i)))) H := hP
                      have hD : va_D A (mW cI cZ q o (va_up (va_up g 31 (upd (upd S s1 pa) s1 ((((g 28 i) * (nI (popG 16 s1))) + (S (wiN (g 30) s1 i L))) + (S (s1 - wiN (g 30) s1 i L))))) 32 (upd (upd F s1 pb) s1 (nI i)))) := hD
                      refine lv_iinc (v := nI (i + 1)) (lv' := [(2, .int (nI (i + 1))), (4, .int ((((g 28 i) * (nI (popG 16 s1))) + (S (wiN (g 30) s1 i L))) + (S (s1 - wiN (g 30) s1 i L)))), (3, .int (nI (wiN (g 30) s1 i L))), (0, .ref o), (1, .int (nI s1))]) hx hb dX3_plans_127 hl (k := 4) rfl (nI_1 _) (by decide) rfl (fun ls hl => ?_)
                      refine lv_goto (tgt := 28) hx hb dX3_plans_130 (by decide) ?_
                      have hq_18 : plI (g 28) (g 30) S L s1 (i + 1) = ((g 28 i * nI (popG 16 s1) + S (wiN (g 30) s1 i L) + S (s1 - wiN (g 30) s1 i L)), nI i) := by rw [plI, if_pos ⟨(fun h => c_10 (by rw [h]; rfl)), (fun h => c_13 (by rw [h])), Or.inl (by rw [hpl]; exact c_17)⟩]
                      have q_19 : va_up (va_up g 31 (upd S s1 (if 1 < popG 16 s1 then plI (g 28) (g 30) S L s1 (i + 1) else (0, -1)).1)) 32 (upd F s1 (if 1 < popG 16 s1 then plI (g 28) (g 30) S L s1 (i + 1) else (0, -1)).2) = va_up (va_up g 31 (upd (upd S s1 pa) s1 ((((g 28 i) * (nI (popG 16 s1))) + (S (wiN (g 30) s1 i L))) + (S (s1 - wiN (g 30) s1 i L))))) 32 (upd (upd F s1 pb) s1 (nI i)) := by rw [if_pos hp1, hq_18]; simp only [upd_upd]
                      exact ih2 (i + 1) (by omega) (by omega) H locs ls (by rw [q_19]; exact hP) (by rw [q_19]; exact hD) hS (by exact lv_sub hl [3, 4, 0] rfl)
                    · refine lv_iload hx hb dX3_plans_101 (lv_at hl 0 rfl) ?_
                      refine lv_aload_n hx hb dX3_plans_103 rfl (lv_at hl 2 rfl) ?_
                      refine va_get (D := D) (ci := 3) (v := .ref (q 31)) (C := RX3) (T := TX3) (N := 33) hx hb hts hinX3 hown hK hP 0 rfl rfl 31 (by decide) (hts (.fieldLink RX3 87 "TroubleCodesModel" "sum" "[I") (mem_at 2 rfl)) (fun _ h9 => h9) rfl dX3_plans_104 ?_
                      refine lv_iload_n hx hb dX3_plans_107 rfl (lv_at hl 3 rfl) ?_
                      refine x_iald (k := s1) (f := upd S s1 pa) hx hb hK hP 25 rfl (by omega) (by decide) dX3_plans_108 ?_
                      rw [pk_us]
                      refine lv_icmp_ge (tgt := 127) hx hb dX3_plans_109 (by decide) (fun c_20 => ?_) (fun c_20 => ?_)
                      · refine lv_iinc (v := nI (i + 1)) (lv' := [(2, .int (nI (i + 1))), (4, .int ((((g 28 i) * (nI (popG 16 s1))) + (S (wiN (g 30) s1 i L))) + (S (s1 - wiN (g 30) s1 i L)))), (3, .int (nI (wiN (g 30) s1 i L))), (0, .ref o), (1, .int (nI s1))]) hx hb dX3_plans_127 hl (k := 4) rfl (nI_1 _) (by decide) rfl (fun ls hl => ?_)
                        refine lv_goto (tgt := 28) hx hb dX3_plans_130 (by decide) ?_
                        have hq_21 : plI (g 28) (g 30) S L s1 (i + 1) = (pa, pb) := by rw [plI, if_neg (fun h => h.2.2.elim (fun h => c_17 (by rw [hpl] at h; exact h)) (fun h => absurd h (by rw [hpl]; exact Int32.not_lt.mpr c_20))), hpl]
                        have q_22 : va_up (va_up g 31 (upd S s1 (if 1 < popG 16 s1 then plI (g 28) (g 30) S L s1 (i + 1) else (0, -1)).1)) 32 (upd F s1 (if 1 < popG 16 s1 then plI (g 28) (g 30) S L s1 (i + 1) else (0, -1)).2) = va_up (va_up g 31 (upd S s1 pa)) 32 (upd F s1 pb) := by rw [if_pos hp1, hq_21]
                        exact ih2 (i + 1) (by omega) (by omega) H locs ls (by rw [q_22]; exact hP) (by rw [q_22]; exact hD) hS (by exact lv_sub hl [3, 4, 0] rfl)
                      · refine lv_aload_n hx hb dX3_plans_112 rfl (lv_at hl 2 rfl) ?_
                        refine va_get (D := D) (ci := 3) (v := .ref (q 31)) (C := RX3) (T := TX3) (N := 33) hx hb hts hinX3 hown hK hP 0 rfl rfl 31 (by decide) (hts (.fieldLink RX3 87 "TroubleCodesModel" "sum" "[I") (mem_at 2 rfl)) (fun _ h9 => h9) rfl dX3_plans_113 ?_
                        refine lv_iload_n hx hb dX3_plans_116 rfl (lv_at hl 3 rfl) ?_
                        refine lv_iload hx hb dX3_plans_117 (lv_at hl 0 rfl) ?_
                        refine x_iast (k := s1) (f := upd S s1 pa) (x := (((g 28 i) * (nI (popG 16 s1))) + (S (wiN (g 30) s1 i L))) + (S (s1 - wiN (g 30) s1 i L))) hx hb hK hP hD hS 25 rfl (by omega) (by decide) dX3_plans_119 (fun H locs hP hD hS => ?_)
                        have hP : va_P D vwCl (mW cI cZ q o (va_up (va_up g 31 (upd (upd S s1 pa) s1 ((((g 28 i) * (nI (popG 16 s1))) + (S (wiN (g 30) s1 i L))) + (S (s1 - wiN (g 30) s1 i L))))) 32 (upd F s1 pb))) H := hP
                        have hD : va_D A (mW cI cZ q o (va_up (va_up g 31 (upd (upd S s1 pa) s1 ((((g 28 i) * (nI (popG 16 s1))) + (S (wiN (g 30) s1 i L))) + (S (s1 - wiN (g 30) s1 i L))))) 32 (upd F s1 pb))) := hD
                        refine lv_aload_n hx hb dX3_plans_120 rfl (lv_at hl 2 rfl) ?_
                        refine va_get (D := D) (ci := 3) (v := .ref (q 32)) (C := RX3) (T := TX3) (N := 33) hx hb hts hinX3 hown hK hP 0 rfl rfl 32 (by decide) (hts (.fieldLink RX3 90 "TroubleCodesModel" "first" "[I") (mem_at 3 rfl)) (fun _ h9 => h9) rfl dX3_plans_121 ?_
                        refine lv_iload_n hx hb dX3_plans_124 rfl (lv_at hl 3 rfl) ?_
                        refine lv_iload_n hx hb dX3_plans_125 rfl (lv_at hl 4 rfl) ?_
                        refine x_iast (k := s1) (f := upd F s1 pb) (x := nI i) hx hb hK hP hD hS 26 rfl (by omega) (by decide) dX3_plans_126 (fun H locs hP hD hS => ?_)
                        have hP : va_P D vwCl (mW cI cZ q o (va_up (va_up g 31 (upd (upd S s1 pa) s1 ((((g 28 i) * (nI (popG 16 s1))) + (S (wiN (g 30) s1 i L))) + (S (s1 - wiN (g 30) s1 i L))))) 32 (upd (upd F s1 pb) s1 (nI i)))) H := hP
                        have hD : va_D A (mW cI cZ q o (va_up (va_up g 31 (upd (upd S s1 pa) s1 ((((g 28 i) * (nI (popG 16 s1))) + (S (wiN (g 30) s1 i L))) + (S (s1 - wiN (g 30) s1 i L))))) 32 (upd (upd F s1 pb) s1 (nI i)))) := hD
                        refine lv_iinc (v := nI (i + 1)) (lv' := [(2, .int (nI (i + 1))), (4, .int ((((g 28 i) * (nI (popG 16 s1))) + (S (wiN (g 30) s1 i L))) + (S (s1 - wiN (g 30) s1 i L)))), (3, .int (nI (wiN (g 30) s1 i L))), (0, .ref o), (1, .int (nI s1))]) hx hb dX3_plans_127 hl (k := 4) rfl (nI_1 _) (by decide) rfl (fun ls hl => ?_)
                        refine lv_goto (tgt := 28) hx hb dX3_plans_130 (by decide) ?_
                        have hq_23 : plI (g 28) (g 30) S L s1 (i + 1) = ((g 28 i * nI (popG 16 s1) + S (wiN (g 30) s1 i L) + S (s1 - wiN (g 30) s1 i L)), nI i) := by rw [plI, if_pos ⟨(fun h => c_10 (by rw [h]; rfl)), (fun h => c_13 (by rw [h])), Or.inr (by rw [hpl]; exact Int32.not_le.mp c_20)⟩]
                        have q_24 : va_up (va_up g 31 (upd S s1 (if 1 < popG 16 s1 then plI (g 28) (g 30) S L s1 (i + 1) else (0, -1)).1)) 32 (upd F s1 (if 1 < popG 16 s1 then plI (g 28) (g 30) S L s1 (i + 1) else (0, -1)).2) = va_up (va_up g 31 (upd (upd S s1 pa) s1 ((((g 28 i) * (nI (popG 16 s1))) + (S (wiN (g 30) s1 i L))) + (S (s1 - wiN (g 30) s1 i L))))) 32 (upd (upd F s1 pb) s1 (nI i)) := by rw [if_pos hp1, hq_23]; simp only [upd_upd]
                        exact ih2 (i + 1) (by omega) (by omega) H locs ls (by rw [q_24]; exact hP) (by rw [q_24]; exact hD) hS (by exact lv_sub hl [3, 4, 0] rfl)
        have q_25 : (nI 0 : Int32) = 0 := by rfl
        exact LOOP_3 (mm - 0 + 1) 0 (Nat.zero_le _) (Nat.lt_succ_self _) _ _ ls (by simp only [plI, ite_self]; exact hP) (by simp only [plI, ite_self]; exact hD) hS (by rw [q_25]; exact lv_sub hl [1, 2, 0] rfl)
  have q_26 : (nI 0 : Int32) = 0 := by rfl
  exact LOOP_1 (2 ^ L - 0 + 1) 0 (Nat.zero_le _) (Nat.lt_succ_self _) _ _ ls (by skip; exact hP) (by skip; exact hD) hS (by rw [q_26]; exact lv_sub hl [1, 0] rfl)
end

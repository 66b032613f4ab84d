theorem or_pow {a i : Nat} (ha : a < 2 ^ i) : a ||| 2 ^ i = a + 2 ^ i := by
  have h := Nat.two_pow_add_eq_or_of_lt ha 1
  rw [Nat.mul_one] at h
  rw [Nat.or_comm, ← h, Nat.add_comm]
theorem nI_or {a b : Nat} : nI a ||| nI b = nI (a ||| b) := by
  apply Int32.toBitVec_inj.mp
  rw [Int32.toBitVec_or]
  show BitVec.ofInt 32 (a : Int) ||| BitVec.ofInt 32 (b : Int) = BitVec.ofInt 32 ((a ||| b : Nat) : Int)
  rw [BitVec.ofInt_natCast, BitVec.ofInt_natCast, BitVec.ofInt_natCast]
  apply BitVec.eq_of_toNat_eq
  simp [BitVec.toNat_or, BitVec.toNat_ofNat, Nat.or_mod_two_pow]
def wiN (li : Nat → Int32) (sb ci : Nat) : Nat → Nat
  | 0 => 0
  | i + 1 => wiN li sb ci i + (if (nI sb >>> (nI i &&& 31)) &&& 1 = 1 ∧ (li i >>> (nI ci &&& 31)) &&& 1 = 1 then 2 ^ i else 0)
theorem wiN_lt (li : Nat → Int32) (sb ci : Nat) : ∀ i, wiN li sb ci i < 2 ^ i
  | 0 => by simp [wiN]
  | i + 1 => by
    have := wiN_lt li sb ci i
    rw [wiN, Nat.pow_succ]
    split <;> omega
theorem bit_a : ∀ (i : Fin 11) (b : Fin 1024), ((nI b.val >>> (nI i.val &&& 31)) &&& 1 = 1) = (b.val / 2 ^ i.val % 2 = 1) := by
  intro i b
  have h1 : nI b.val >>> (nI i.val &&& 31) = nI (b.val / 2 ^ i.val) := pk_shrN (by omega) _ _ (by revert i; decide)
  have h2 : b.val / 2 ^ i.val < 2 ^ 31 := Nat.lt_of_le_of_lt (Nat.div_le_self _ _) (by omega)
  rw [h1, and1N h2, show (1 : Int32) = nI 1 from rfl, nI_eq (by omega) (by decide)]
theorem bit_n {b i : Nat} (hb : b < 1024) (hi : i ≤ 10) : ((nI b >>> (nI i &&& 31)) &&& 1 = 1) = (b / 2 ^ i % 2 = 1) := bit_a ⟨i, by omega⟩ ⟨b, hb⟩
theorem wiN_bit (li : Nat → Int32) (sb ci : Nat) (hs : sb < 1024) : ∀ L, L ≤ 10 → ∀ i, (wiN li sb ci L).testBit i = true → sb.testBit i = true
  | 0, _, i, h => by simp [wiN] at h
  | L + 1, hL, i, h => by
    rw [wiN] at h
    by_cases hc : (nI sb >>> (nI L &&& 31)) &&& 1 = 1 ∧ (li L >>> (nI ci &&& 31)) &&& 1 = 1
    · rw [if_pos hc, ← or_pow (wiN_lt li sb ci L), Nat.testBit_or, Nat.testBit_two_pow] at h
      rcases Bool.or_eq_true_iff.mp h with h | h
      · exact wiN_bit li sb ci hs L (by omega) i h
      · have e : L = i := by simpa using h
        subst e
        have := hc.1
        rw [bit_n hs (by omega)] at this
        rw [Nat.testBit_eq_decide_div_mod_eq]; simp [this]
    · rw [if_neg hc, Nat.add_zero] at h
      exact wiN_bit li sb ci hs L (by omega) i h
theorem sub_of_bits {a b : Nat} (h : ∀ i, a.testBit i = true → b.testBit i = true) : b &&& a = a := by
  apply Nat.eq_of_testBit_eq
  intro i
  rw [Nat.testBit_and]
  cases ha : a.testBit i with
  | false => simp
  | true => simp [h i ha]
theorem andc {a b : Nat} (hb : b < 2 ^ 31) (h : b &&& a = a) : nI b &&& (nI a ^^^ (-1)) = nI (b - a) := by
  have hab : a ≤ b := by have := Nat.and_le_left (n := b) (m := a); omega
  apply Int32.toBitVec_inj.mp
  rw [Int32.toBitVec_and, Int32.toBitVec_xor]
  show BitVec.ofInt 32 (b : Int) &&& (BitVec.ofInt 32 (a : Int) ^^^ (-1 : Int32).toBitVec) = BitVec.ofInt 32 ((b - a : Nat) : Int)
  rw [BitVec.ofInt_natCast, BitVec.ofInt_natCast, BitVec.ofInt_natCast]
  rw [show (-1 : Int32).toBitVec = BitVec.allOnes 32 from by decide, BitVec.xor_allOnes]
  have e : b = (b - a) + a := by omega
  have hd : (b &&& a) = a := h
  apply BitVec.eq_of_toNat_eq
  rw [BitVec.toNat_ofNat, Nat.mod_eq_of_lt (by omega : b - a < 2 ^ 32)]
  have key : BitVec.ofNat 32 b = (BitVec.ofNat 32 b &&& ~~~ BitVec.ofNat 32 a) + BitVec.ofNat 32 a := by
    have h1 : BitVec.ofNat 32 a = BitVec.ofNat 32 b &&& BitVec.ofNat 32 a := by
      apply BitVec.eq_of_toNat_eq
      rw [BitVec.toNat_and, BitVec.toNat_ofNat, BitVec.toNat_ofNat, Nat.mod_eq_of_lt (by omega : a < 2 ^ 32), Nat.mod_eq_of_lt (by omega : b < 2 ^ 32), hd]
    have h2 : (BitVec.ofNat 32 b &&& ~~~ BitVec.ofNat 32 a) &&& BitVec.ofNat 32 a = 0#32 := by
      apply BitVec.eq_of_getLsbD_eq
      intro i hi
      simp only [BitVec.getLsbD_and, BitVec.getLsbD_not, BitVec.getLsbD_zero]
      cases (BitVec.ofNat 32 a).getLsbD i <;> simp
    rw [BitVec.add_eq_or_of_and_eq_zero _ _ h2]
    apply BitVec.eq_of_getLsbD_eq
    intro i hi
    have h3 := congrArg (fun v => BitVec.getLsbD v i) h1
    simp only [BitVec.getLsbD_and, BitVec.getLsbD_or, BitVec.getLsbD_not] at h3 ⊢
    generalize (BitVec.ofNat 32 a).getLsbD i = x at h3 ⊢
    generalize (BitVec.ofNat 32 b).getLsbD i = y at h3 ⊢
    revert h3
    cases x <;> cases y <;> simp [hi]
  have k2 := congrArg BitVec.toNat key
  rw [BitVec.toNat_add, BitVec.toNat_ofNat, BitVec.toNat_ofNat, Nat.mod_eq_of_lt (by omega : a < 2 ^ 32), Nat.mod_eq_of_lt (by omega : b < 2 ^ 32)] at k2
  have hlt : (BitVec.ofNat 32 b &&& ~~~ BitVec.ofNat 32 a).toNat ≤ b := by
    rw [BitVec.toNat_and, BitVec.toNat_ofNat, Nat.mod_eq_of_lt (by omega : b < 2 ^ 32)]
    exact Nat.and_le_left
  rw [Nat.mod_eq_of_lt (by omega)] at k2
  omega
def plI (price li S : Nat → Int32) (L s : Nat) : Nat → Int32 × Int32
  | 0 => (0, -1)
  | i + 1 =>
    if ¬ wiN li s i L = 0 ∧ ¬ wiN li s i L = s ∧ ((plI price li S L s i).2 = -1 ∨ price i * nI (popG 16 s) + S (wiN li s i L) + S (s - wiN li s i L) < (plI price li S L s i).1) then
      (price i * nI (popG 16 s) + S (wiN li s i L) + S (s - wiN li s i L), nI i)
    else plI price li S L s i
def plO (price li : Nat → Int32) (L mm : Nat) (S0 F0 : Nat → Int32) : Nat → (Nat → Int32) × (Nat → Int32)
  | 0 => (S0, F0)
  | s + 1 =>
    (upd (plO price li L mm S0 F0 s).1 s (if 1 < popG 16 s then plI price li (plO price li L mm S0 F0 s).1 L s mm else (0, -1)).1,
     upd (plO price li L mm S0 F0 s).2 s (if 1 < popG 16 s then plI price li (plO price li L mm S0 F0 s).1 L s mm else (0, -1)).2)

theorem nI_or_pow {a i : Nat} (ha : a < 2 ^ i) : nI a ||| nI (2 ^ i) = nI (a + 2 ^ i) := by rw [nI_or, or_pow ha]
theorem nI_or0 (a : Nat) : nI a ||| 0 = nI (a + 0) := by
  rw [Nat.add_zero]; exact (nI_or (a := a) (b := 0)).trans (by rw [Nat.or_zero])

set_option maxHeartbeats 4000000 in
set_option maxRecDepth 100000 in
theorem tX3_with (l : Launch) (D : va_G) (cI cZ cC : ClassId) (q : Nat → Nat) (o : Nat) (g : Nat → Nat → Int32) (L : Nat) (hL : g 29 0 = nI L) (hLb : L ≤ 10) (sb ci : Nat) : RdC l yX3_with wsX3_with (rmK 0) D cI cZ cC [.ref o, .int (nI sb), .int (nI ci)] (fun H => va_P D vwCl (mW cI cZ q o g) H) (fun ans => ans = nI (wiN (g 30) sb ci L)) := by
  refine RdC.of (cc := cX3_with) (maxL := 5) (ret := .int) (by decide) rfl (Nat.le_of_ble_eq_true rfl) ?_
  intro p e s m args below meth c Q ls hx hb hml hts hown hK hP hret hl
  have hl : lv_has ls 5 [(0, .ref o), (1, .int (nI sb)), (2, .int (nI ci))] := hl
  have hP : va_P D vwCl (mW cI cZ q o g) s.heap := hP
  have hinX3 : ∀ w ∈ u_ws RX3 TX3 33, w ∈ wsX3_with := (fun w h => List.mem_cons_of_mem _ (List.mem_append_right _ h))
  refine lv_iconst (v := 0) hx hb dX3_with_0 (by decide) ?_
  refine lv_istore_n (lv' := [(3, .int 0), (0, .ref o), (1, .int (nI sb)), (2, .int (nI ci))]) hx hb dX3_with_1 rfl hl (by decide) rfl (fun ls hl => ?_)
  refine lv_iconst (v := 0) hx hb dX3_with_2 (by decide) ?_
  refine lv_istore (lv' := [(4, .int 0), (3, .int 0), (0, .ref o), (1, .int (nI sb)), (2, .int (nI ci))]) hx hb dX3_with_3 hl (by decide) rfl (fun ls hl => ?_)
  have LOOP_1 : ∀ (fu i : Nat), i ≤ L → L - i < fu → ∀ (ls : Array Slot), lv_has ls 5 [(0, .ref o), (1, .int (nI sb)), (2, .int (nI ci)), (3, .int (nI (wiN (g 30) sb ci i))), (4, .int (nI i))] → W p l e (rmK 0) s m args below meth c s.heap [] 0 0 Q (F0 m 5 ls []) := by
    intro fu
    induction fu with
    | zero => intro i h1 h2; exact absurd h2 (Nat.not_lt_zero _)
    | succ fu ih =>
      intro i hkn hfu  ls hl
      refine lv_iload hx hb dX3_with_5 (lv_at hl 4 rfl) ?_
      refine lv_aload_n hx hb dX3_with_7 rfl (lv_at hl 0 rfl) ?_
      refine va_get (D := D) (ci := 3) (v := .int (g 29 0)) (C := RX3) (T := TX3) (N := 33) hx hb hts hinX3 hown hK hP 0 rfl rfl 29 (by decide) (hts (.fieldLink RX3 147 "TroubleCodesModel" "listed" "I") (mem_at 1 rfl)) (fun _ h9 => h9) rfl dX3_with_8 ?_
      refine lv_icmp_ge (tgt := 56) hx hb dX3_with_11 (by decide) (fun c_2 => ?_) (fun c_2 => ?_)
      · have ekn : L = i := Nat.le_antisymm (kx_ge hL (by omega) (by omega) c_2) hkn
        subst ekn
        refine lv_iload_n hx hb dX3_with_56 rfl (lv_at hl 3 rfl) ?_
        exact hret 57 _ _ (rfl) rfl dX3_with_57
      · have hil : i < L := kx_lt hL (by omega) (by omega) c_2
        refine lv_iload_n hx hb dX3_with_14 rfl (lv_at hl 3 rfl) ?_
        refine lv_iload_n hx hb dX3_with_15 rfl (lv_at hl 1 rfl) ?_
        refine lv_iload hx hb dX3_with_16 (lv_at hl 4 rfl) ?_
        refine lv_ishr hx hb dX3_with_18 ?_
        refine lv_iconst (v := 1) hx hb dX3_with_19 (by decide) ?_
        refine lv_iand hx hb dX3_with_20 ?_
        refine lv_iconst (v := 1) hx hb dX3_with_21 (by decide) ?_
        refine lv_icmp_ne (tgt := 47) hx hb dX3_with_22 (by decide) (fun c_3 => ?_) (fun c_3 => ?_)
        · refine lv_iconst (v := 0) hx hb dX3_with_47 (by decide) ?_
          refine lv_ior hx hb dX3_with_48 ?_
          refine lv_istore_n (lv' := [(3, .int ((nI (wiN (g 30) sb ci i)) ||| 0)), (0, .ref o), (1, .int (nI sb)), (2, .int (nI ci)), (4, .int (nI i))]) hx hb dX3_with_49 rfl hl (by decide) rfl (fun ls hl => ?_)
          refine lv_iinc (v := nI (i + 1)) (lv' := [(4, .int (nI (i + 1))), (3, .int ((nI (wiN (g 30) sb ci i)) ||| 0)), (0, .ref o), (1, .int (nI sb)), (2, .int (nI ci))]) hx hb dX3_with_50 hl (k := 4) rfl (nI_1 _) (by decide) rfl (fun ls hl => ?_)
          refine lv_goto (tgt := 5) hx hb dX3_with_53 (by decide) ?_
          have q_4 : (nI (wiN (g 30) sb ci (i + 1)) : Int32) = (nI (wiN (g 30) sb ci i)) ||| 0 := by rw [wiN, if_neg (fun h => c_3 h.1)]; exact (nI_or0 _).symm
          exact ih (i + 1) (by omega) (by omega) ls (by rw [q_4]; exact lv_sub hl [2, 3, 4, 1, 0] rfl)
        · refine lv_aload_n hx hb dX3_with_25 rfl (lv_at hl 0 rfl) ?_
          refine va_get (D := D) (ci := 3) (v := .ref (q 30)) (C := RX3) (T := TX3) (N := 33) hx hb hts hinX3 hown hK hP 0 rfl rfl 30 (by decide) (hts (.fieldLink RX3 84 "TroubleCodesModel" "list" "[I") (mem_at 2 rfl)) (fun _ h9 => h9) rfl dX3_with_26 ?_
          refine lv_iload hx hb dX3_with_29 (lv_at hl 4 rfl) ?_
          refine x_iald (k := i) (f := g 30) hx hb hK hP 24 rfl (by omega) (by decide) dX3_with_31 ?_
          refine lv_iload_n hx hb dX3_with_32 rfl (lv_at hl 2 rfl) ?_
          refine lv_ishr hx hb dX3_with_33 ?_
          refine lv_iconst (v := 1) hx hb dX3_with_34 (by decide) ?_
          refine lv_iand hx hb dX3_with_35 ?_
          refine lv_iconst (v := 1) hx hb dX3_with_36 (by decide) ?_
          refine lv_icmp_ne (tgt := 47) hx hb dX3_with_37 (by decide) (fun c_5 => ?_) (fun c_5 => ?_)
          · refine lv_iconst (v := 0) hx hb dX3_with_47 (by decide) ?_
            refine lv_ior hx hb dX3_with_48 ?_
            refine lv_istore_n (lv' := [(3, .int ((nI (wiN (g 30) sb ci i)) ||| 0)), (0, .ref o), (1, .int (nI sb)), (2, .int (nI ci)), (4, .int (nI i))]) hx hb dX3_with_49 rfl hl (by decide) rfl (fun ls hl => ?_)
            refine lv_iinc (v := nI (i + 1)) (lv' := [(4, .int (nI (i + 1))), (3, .int ((nI (wiN (g 30) sb ci i)) ||| 0)), (0, .ref o), (1, .int (nI sb)), (2, .int (nI ci))]) hx hb dX3_with_50 hl (k := 4) rfl (nI_1 _) (by decide) rfl (fun ls hl => ?_)
            refine lv_goto (tgt := 5) hx hb dX3_with_53 (by decide) ?_
            have q_6 : (nI (wiN (g 30) sb ci (i + 1)) : Int32) = (nI (wiN (g 30) sb ci i)) ||| 0 := by rw [wiN, if_neg (fun h => c_5 h.2)]; exact (nI_or0 _).symm
            exact ih (i + 1) (by omega) (by omega) ls (by rw [q_6]; exact lv_sub hl [2, 3, 4, 1, 0] rfl)
          · refine lv_iconst (v := 1) hx hb dX3_with_40 (by decide) ?_
            refine lv_iload hx hb dX3_with_41 (lv_at hl 4 rfl) ?_
            refine lv_ishl hx hb dX3_with_43 ?_
            rw [shl1 (m := i) (by omega)]
            refine lv_goto (tgt := 48) hx hb dX3_with_44 (by decide) ?_
            refine lv_ior hx hb dX3_with_48 ?_
            refine lv_istore_n (lv' := [(3, .int ((nI (wiN (g 30) sb ci i)) ||| (nI (2 ^ i)))), (0, .ref o), (1, .int (nI sb)), (2, .int (nI ci)), (4, .int (nI i))]) hx hb dX3_with_49 rfl hl (by decide) rfl (fun ls hl => ?_)
            refine lv_iinc (v := nI (i + 1)) (lv' := [(4, .int (nI (i + 1))), (3, .int ((nI (wiN (g 30) sb ci i)) ||| (nI (2 ^ i)))), (0, .ref o), (1, .int (nI sb)), (2, .int (nI ci))]) hx hb dX3_with_50 hl (k := 4) rfl (nI_1 _) (by decide) rfl (fun ls hl => ?_)
            refine lv_goto (tgt := 5) hx hb dX3_with_53 (by decide) ?_
            have q_7 : (nI (wiN (g 30) sb ci (i + 1)) : Int32) = (nI (wiN (g 30) sb ci i)) ||| (nI (2 ^ i)) := by rw [wiN, if_pos ⟨c_3, c_5⟩, ← nI_or_pow (wiN_lt (g 30) sb ci i)]
            exact ih (i + 1) (by omega) (by omega) ls (by rw [q_7]; exact lv_sub hl [2, 3, 4, 1, 0] rfl)
  have q_8 : (nI (wiN (g 30) sb ci 0) : Int32) = 0 := by rfl
  have q_9 : (nI 0 : Int32) = 0 := by rfl
  exact LOOP_1 (L - 0 + 1) 0 (Nat.zero_le _) (Nat.lt_succ_self _) ls (by rw [q_8, q_9]; exact lv_sub hl [2, 3, 4, 1, 0] rfl)

theorem upd_upd {f : Nat → Int32} {k : Nat} {x y : Int32} : upd (upd f k x) k y = upd f k y := by
  funext j
  by_cases h : j = k
  · simp [upd, h]
  · simp [upd, h]

def fX3_plans (g : Nat → Nat → Int32) (L mm : Nat) : Nat → Nat → Int32 := va_up (va_up g 31 (plO (g 28) (g 30) L mm (g 31) (g 32) (2 ^ L)).1) 32 (plO (g 28) (g 30) L mm (g 31) (g 32) (2 ^ L)).2

set_option maxHeartbeats 4000000 in
set_option maxRecDepth 100000 in
theorem tX3_plans (l : Launch) (D : va_G) (cI cZ cC : ClassId) (q : Nat → Nat) (o : Nat) (g : Nat → Nat → Int32) (n : Nat) (hn : g 0 0 = nI n) (hnb : n ≤ 16) (mm : Nat) (hm : g 26 0 = nI mm) (hmb : mm ≤ 10) (L : Nat) (hL : g 29 0 = nI L) (hLb : L ≤ 10) : WrV l yX3_plans wsX3_plans (rmK 1) D cI cZ cC [.ref o] (mW cI cZ q o g) (mW cI cZ q o (fX3_plans g L mm)) := by
  refine WrV.of (cc := cX3_plans) (maxL := 5) (by decide) rfl (Nat.le_of_ble_eq_true rfl) ?_
  intro p e s m args below meth c Q A ls hx hb hml hts hown hK hP hD hS hA hret hl
  have hl : lv_has ls 5 [(0, .ref o)] := hl
  have hinX3 : ∀ w ∈ u_ws RX3 TX3 33, w ∈ wsX3_plans := (fun w h => List.mem_cons_of_mem _ (List.mem_append_right _ h))
  refine lv_iconst (v := 0) hx hb dX3_plans_0 (by decide) ?_
  refine lv_istore_n (lv' := [(1, .int 0), (0, .ref o)]) hx hb dX3_plans_1 rfl hl (by decide) rfl (fun ls hl => ?_)
  have LOOP_1 : ∀ (fu s1 : Nat), s1 ≤ 2 ^ L → 2 ^ L - s1 < fu → ∀ (H : Heap) (locs : List Loc) (ls : Array Slot), va_P D vwCl (mW cI cZ q o (va_up (va_up g 31 ((plO (g 28) (g 30) L mm (g 31) (g 32) s1).1)) 32 ((plO (g 28) (g 30) L mm (g 31) (g 32) s1).2))) H → va_D A (mW cI cZ q o (va_up (va_up g 31 ((plO (g 28) (g 30) L mm (g 31) (g 32) s1).1)) 32 ((plO (g 28) (g 30) L mm (g 31) (g 32) s1).2))) → va_S A s.heap H locs → lv_has ls 5 [(0, .ref o), (1, .int (nI s1))] → W p l e (rmK 1) s m args below meth c H locs 0 0 Q (F0 m 2 ls []) := by
    intro fu
    induction fu with
    | zero => intro s1 h1 h2; exact absurd h2 (Nat.not_lt_zero _)
    | succ fu ih =>
      intro s1 hkn hfu  H locs ls hP hD hS hl
      refine lv_iload_n hx hb dX3_plans_2 rfl (lv_at hl 1 rfl) ?_
      refine lv_iconst (v := 1) hx hb dX3_plans_3 (by decide) ?_
      refine lv_aload_n hx hb dX3_plans_4 rfl (lv_at hl 0 rfl) ?_
      refine va_get (D := D) (ci := 3) (v := .int (g 29 0)) (C := RX3) (T := TX3) (N := 33) hx hb hts hinX3 hown hK hP 0 rfl rfl 29 (by decide) (hts (.fieldLink RX3 147 "TroubleCodesModel" "listed" "I") (mem_at 1 rfl)) (fun _ h9 => h9) rfl dX3_plans_5 ?_
      refine lv_ishl hx hb dX3_plans_8 ?_
      rw [shl1x hL (by omega)]
      refine lv_icmp_ge (tgt := 139) hx hb dX3_plans_9 (by decide) (fun c_2 => ?_) (fun c_2 => ?_)
      · have ekn : 2 ^ L = s1 := Nat.le_antisymm (kx_ge (x := nI (2 ^ L)) rfl (by have := pow_le10 hLb; omega) (by have := pow_le10 hLb; omega) c_2) hkn
        subst ekn
        exact hret 139 _ _ _ hP hD hS dX3_plans_139
      · have hzl : s1 < 2 ^ L := kx_lt (x := nI (2 ^ L)) rfl (by have := pow_le10 hLb; omega) (by have := pow_le10 hLb; omega) c_2
        obtain ⟨S, hSe⟩ : ∃ S, S = (plO (g 28) (g 30) L mm (g 31) (g 32) s1).1 := ⟨_, rfl⟩
        obtain ⟨F, hFe⟩ : ∃ F, F = (plO (g 28) (g 30) L mm (g 31) (g 32) s1).2 := ⟨_, rfl⟩
        rw [← hSe, ← hFe] at hP hD
        have hs10 : s1 < 1024 := by have := pow_le10 hLb; omega
        have hps := popG_le 16 s1
        refine lv_aload_n hx hb dX3_plans_12 rfl (lv_at hl 0 rfl) ?_
        refine va_get (D := D) (ci := 3) (v := .ref (q 31)) (C := RX3) (T := TX3) (N := 33) hx hb hts hinX3 hown hK hP 0 rfl rfl 31 (by decide) (hts (.fieldLink RX3 87 "TroubleCodesModel" "sum" "[I") (mem_at 2 rfl)) (fun _ h9 => h9) rfl dX3_plans_13 ?_
        refine lv_iload_n hx hb dX3_plans_16 rfl (lv_at hl 1 rfl) ?_
        refine lv_iconst (v := 0) hx hb dX3_plans_17 (by decide) ?_
        refine x_iast (k := s1) (f := S) (x := 0) hx hb hK hP hD hS 25 rfl (by omega) (by decide) dX3_plans_18 (fun H locs hP hD hS => ?_)
        have hP : va_P D vwCl (mW cI cZ q o (va_up (va_up g 31 (upd S s1 0)) 32 F)) H := hP
        have hD : va_D A (mW cI cZ q o (va_up (va_up g 31 (upd S s1 0)) 32 F)) := hD
        refine lv_aload_n hx hb dX3_plans_19 rfl (lv_at hl 0 rfl) ?_
        refine va_get (D := D) (ci := 3) (v := .ref (q 32)) (C := RX3) (T := TX3) (N := 33) hx hb hts hinX3 hown hK hP 0 rfl rfl 32 (by decide) (hts (.fieldLink RX3 90 "TroubleCodesModel" "first" "[I") (mem_at 3 rfl)) (fun _ h9 => h9) rfl dX3_plans_20 ?_
        refine lv_iload_n hx hb dX3_plans_23 rfl (lv_at hl 1 rfl) ?_
        refine lv_iconst (v := (-1)) hx hb dX3_plans_24 (by decide) ?_
        refine x_iast (k := s1) (f := F) (x := (-1)) hx hb hK hP hD hS 26 rfl (by omega) (by decide) dX3_plans_25 (fun H locs hP hD hS => ?_)
        have hP : va_P D vwCl (mW cI cZ q o (va_up (va_up g 31 (upd S s1 0)) 32 (upd F s1 (-1)))) H := hP
        have hD : va_D A (mW cI cZ q o (va_up (va_up g 31 (upd S s1 0)) 32 (upd F s1 (-1)))) := hD
        refine lv_iconst (v := 0) hx hb dX3_plans_26 (by decide) ?_
        refine lv_istore_n (lv' := [(2, .int 0), (0, .ref o), (1, .int (nI s1))]) hx hb dX3_plans_27 rfl hl (by decide) rfl (fun ls hl => ?_)
        have LOOP_3 : ∀ (fu i : Nat), i ≤ mm → mm - i < fu → ∀ (H : Heap) (locs : List Loc) (ls : Array Slot), va_P D vwCl (mW cI cZ q o (va_up (va_up g 31 (upd S s1 (if 1 < popG 16 s1 then plI (g 28) (g 30) S L s1 i else (0, -1)).1)) 32 (upd F s1 (if 1 < popG 16 s1 then plI (g 28) (g 30) S L s1 i else (0, -1)).2))) H → va_D A (mW cI cZ q o (va_up (va_up g 31 (upd S s1 (if 1 < popG 16 s1 then plI (g 28) (g 30) S L s1 i else (0, -1)).1)) 32 (upd F s1 (if 1 < popG 16 s1 then plI (g 28) (g 30) S L s1 i else (0, -1)).2))) → va_S A s.heap H locs → lv_has ls 5 [(0, .ref o), (1, .int (nI s1)), (2, .int (nI i))] → W p l e (rmK 1) s m args below meth c H locs 0 0 Q (F0 m 28 ls []) := by
          intro fu
          induction fu with
          | zero => intro i h1 h2; exact absurd h2 (Nat.not_lt_zero _)
          | succ fu ih2 =>
            intro i hkn2 hfu2  H locs ls hP hD hS hl
            refine lv_iload_n hx hb dX3_plans_28 rfl (lv_at hl 2 rfl) ?_
            refine lv_aload_n hx hb dX3_plans_29 rfl (lv_at hl 0 rfl) ?_
            refine va_get (D := D) (ci := 3) (v := .int (g 26 0)) (C := RX3) (T := TX3) (N := 33) hx hb hts hinX3 hown hK hP 0 rfl rfl 26 (by decide) (hts (.fieldLink RX3 141 "TroubleCodesModel" "causes" "I") (mem_at 4 rfl)) (fun _ h9 => h9) rfl dX3_plans_30 ?_
            refine lv_icmp_ge (tgt := 133) hx hb dX3_plans_33 (by decide) (fun c_4 => ?_) (fun c_4 => ?_)
            · have ekn : mm = i := Nat.le_antisymm (kx_ge hm (by omega) (by omega) c_4) hkn2
              subst ekn
              refine lv_iinc (v := nI (s1 + 1)) (lv' := [(1, .int (nI (s1 + 1))), (0, .ref o), (2, .int (nI mm))]) hx hb dX3_plans_133 hl (k := 1) rfl (nI_1 _) (by decide) rfl (fun ls hl => ?_)
              refine lv_goto (tgt := 2) hx hb dX3_plans_136 (by decide) ?_
              have q_5 : va_up (va_up g 31 ((plO (g 28) (g 30) L mm (g 31) (g 32) (s1 + 1)).1)) 32 ((plO (g 28) (g 30) L mm (g 31) (g 32) (s1 + 1)).2) = va_up (va_up g 31 (upd S s1 (if 1 < popG 16 s1 then plI (g 28) (g 30) S L s1 mm else (0, -1)).1)) 32 (upd F s1 (if 1 < popG 16 s1 then plI (g 28) (g 30) S L s1 mm else (0, -1)).2) := by rw [plO, ← hSe, ← hFe]
              exact ih (s1 + 1) (by omega) (by omega) H locs ls (by rw [q_5]; exact hP) (by rw [q_5]; exact hD) hS (by exact lv_sub hl [1, 0] rfl)
            · have hil : i < mm := kx_lt hm (by omega) (by omega) c_4
              refine lv_iload_n hx hb dX3_plans_36 rfl (lv_at hl 1 rfl) ?_
              refine x_rdS (As := [.int (nI s1)]) (rest := []) ⟨hx, hb, hml, hown, hts⟩ (tX3_many l D cI cZ cC s1 (by omega)) (va_cwS 1 hts gX3_plans_X3_many rfl rfl rfl (by decide +kernel) ⟨Nat.le_of_ble_eq_true rfl, Nat.le_of_ble_eq_true rfl⟩) hK trivial rfl hl.1 rfl (Nat.le_of_ble_eq_true rfl) dX3_plans_37 ⟨Nat.le_of_ble_eq_true rfl, Nat.le_of_ble_eq_true rfl⟩ (fun r_6 er_6 => ?_)
              have er_6 : r_6 = nI (popG 16 s1) := er_6
              subst er_6
              refine lv_iconst (v := 1) hx hb dX3_plans_40 (by decide) ?_
              refine lv_icmp_le (tgt := 133) hx hb dX3_plans_41 (by decide) (fun c_7 => ?_) (fun c_7 => ?_)
              · have hp1 : ¬ 1 < popG 16 s1 := fun h => absurd h (Nat.not_lt.mpr ((nI_leI (b := 1) (by omega) (by decide)).mp c_7))
                rw [if_neg hp1] at hP hD
                have hP : va_P D vwCl (mW cI cZ q o (va_up (va_up g 31 (upd S s1 0)) 32 (upd F s1 (-1)))) H := hP
                have hD : va_D A (mW cI cZ q o (va_up (va_up g 31 (upd S s1 0)) 32 (upd F s1 (-1)))) := hD
                refine lv_iinc (v := nI (s1 + 1)) (lv' := [(1, .int (nI (s1 + 1))), (0, .ref o), (2, .int (nI i))]) hx hb dX3_plans_133 hl (k := 1) rfl (nI_1 _) (by decide) rfl (fun ls hl => ?_)
                refine lv_goto (tgt := 2) hx hb dX3_plans_136 (by decide) ?_
                have q_8 : va_up (va_up g 31 ((plO (g 28) (g 30) L mm (g 31) (g 32) (s1 + 1)).1)) 32 ((plO (g 28) (g 30) L mm (g 31) (g 32) (s1 + 1)).2) = va_up (va_up g 31 (upd S s1 0)) 32 (upd F s1 (-1)) := by rw [plO, ← hSe, ← hFe, if_neg hp1]
                exact ih (s1 + 1) (by omega) (by omega) H locs ls (by rw [q_8]; exact hP) (by rw [q_8]; exact hD) hS (by exact lv_sub hl [1, 0] rfl)
              · have hp1 : 1 < popG 16 s1 := Nat.lt_of_not_le (fun h => c_7 ((nI_leI (b := 1) (by omega) (by decide)).mpr h))
                have hwl := wiN_lt (g 30) s1 i L
                have hwb : wiN (g 30) s1 i L < 1024 := by have := pow_le10 hLb; omega
                have hsub := sub_of_bits (wiN_bit (g 30) s1 i hs10 L hLb)
                have hle : wiN (g 30) s1 i L ≤ s1 := by have := Nat.and_le_left (n := s1) (m := wiN (g 30) s1 i L); omega
                obtain ⟨pa, pb, hpl⟩ : ∃ pa pb, plI (g 28) (g 30) S L s1 i = (pa, pb) := ⟨_, _, rfl⟩
                rw [if_pos hp1, hpl] at hP hD
                have hP : va_P D vwCl (mW cI cZ q o (va_up (va_up g 31 (upd S s1 pa)) 32 (upd F s1 pb))) H := hP
                have hD : va_D A (mW cI cZ q o (va_up (va_up g 31 (upd S s1 pa)) 32 (upd F s1 pb))) := hD
                refine lv_aload_n hx hb dX3_plans_44 rfl (lv_at hl 0 rfl) ?_
                refine lv_iload_n hx hb dX3_plans_45 rfl (lv_at hl 1 rfl) ?_
                refine lv_iload_n hx hb dX3_plans_46 rfl (lv_at hl 2 rfl) ?_
                refine x_rdV (As := [.int (nI s1), .int (nI i)]) (rest := []) ⟨hx, hb, hml, hown, hts⟩ (tX3_with l D cI cZ cC q o (va_up (va_up g 31 (upd S s1 pa)) 32 (upd F s1 pb)) L hL hLb s1 i) (cwV 2 hts gX3_plans_X3_with rfl rfl rfl (by decide +kernel) ⟨Nat.le_of_ble_eq_true rfl, Nat.le_of_ble_eq_true rfl⟩) hK (x_recv (ci := 3) hK hP rfl (q0 := 0) rfl) hP rfl hl.1 rfl (Nat.le_of_ble_eq_true rfl) dX3_plans_47 ⟨Nat.le_of_ble_eq_true rfl, Nat.le_of_ble_eq_true rfl⟩ (fun r_9 er_9 => ?_)
                have er_9 : r_9 = nI (wiN (g 30) s1 i L) := er_9
                subst er_9
                refine lv_istore_n (lv' := [(3, .int (nI (wiN (g 30) s1 i L))), (0, .ref o), (1, .int (nI s1)), (2, .int (nI i))]) hx hb dX3_plans_50 rfl hl (by decide) rfl (fun ls hl => ?_)
                refine lv_iload_n hx hb dX3_plans_51 rfl (lv_at hl 0 rfl) ?_
                refine lv_if_eq (tgt := 127) hx hb dX3_plans_52 (by decide) (fun c_10 => ?_) (fun c_10 => ?_)
                · refine lv_iinc (v := nI (i + 1)) (lv' := [(2, .int (nI (i + 1))), (3, .int (nI (wiN (g 30) s1 i L))), (0, .ref o), (1, .int (nI s1))]) hx hb dX3_plans_127 hl (k := 3) rfl (nI_1 _) (by decide) rfl (fun ls hl => ?_)
                  refine lv_goto (tgt := 28) hx hb dX3_plans_130 (by decide) ?_
                  have hq_11 : plI (g 28) (g 30) S L s1 (i + 1) = (pa, pb) := by rw [plI, if_neg (fun h => h.1 ((nI_eq (b := 0) (by omega) (by decide)).mp c_10)), hpl]
                  have q_12 : va_up (va_up g 31 (upd S s1 (if 1 < popG 16 s1 then plI (g 28) (g 30) S L s1 (i + 1) else (0, -1)).1)) 32 (upd F s1 (if 1 < popG 16 s1 then plI (g 28) (g 30) S L s1 (i + 1) else (0, -1)).2) = va_up (va_up g 31 (upd S s1 pa)) 32 (upd F s1 pb) := by rw [if_pos hp1, hq_11]
                  exact ih2 (i + 1) (by omega) (by omega) H locs ls (by rw [q_12]; exact hP) (by rw [q_12]; exact hD) hS (by exact lv_sub hl [2, 3, 0] rfl)
                · refine lv_iload_n hx hb dX3_plans_55 rfl (lv_at hl 0 rfl) ?_
                  refine lv_iload_n hx hb dX3_plans_56 rfl (lv_at hl 2 rfl) ?_
                  refine lv_icmp_eq (tgt := 127) hx hb dX3_plans_57 (by decide) (fun c_13 => ?_) (fun c_13 => ?_)
                  · refine lv_iinc (v := nI (i + 1)) (lv' := [(2, .int (nI (i + 1))), (3, .int (nI (wiN (g 30) s1 i L))), (0, .ref o), (1, .int (nI s1))]) hx hb dX3_plans_127 hl (k := 3) rfl (nI_1 _) (by decide) rfl (fun ls hl => ?_)
                    refine lv_goto (tgt := 28) hx hb dX3_plans_130 (by decide) ?_
                    have hq_14 : plI (g 28) (g 30) S L s1 (i + 1) = (pa, pb) := by rw [plI, if_neg (fun h => h.2.1 ((nI_eq (by omega) (by omega)).mp c_13)), hpl]
                    have q_15 : va_up (va_up g 31 (upd S s1 (if 1 < popG 16 s1 then plI (g 28) (g 30) S L s1 (i + 1) else (0, -1)).1)) 32 (upd F s1 (if 1 < popG 16 s1 then plI (g 28) (g 30) S L s1 (i + 1) else (0, -1)).2) = va_up (va_up g 31 (upd S s1 pa)) 32 (upd F s1 pb) := by rw [if_pos hp1, hq_14]
                    exact ih2 (i + 1) (by omega) (by omega) H locs ls (by rw [q_15]; exact hP) (by rw [q_15]; exact hD) hS (by exact lv_sub hl [2, 3, 0] rfl)
                  · refine lv_aload_n hx hb dX3_plans_60 rfl (lv_at hl 1 rfl) ?_
                    refine va_get (D := D) (ci := 3) (v := .ref (q 28)) (C := RX3) (T := TX3) (N := 33) hx hb hts hinX3 hown hK hP 0 rfl rfl 28 (by decide) (hts (.fieldLink RX3 81 "TroubleCodesModel" "price" "[I") (mem_at 5 rfl)) (fun _ h9 => h9) rfl dX3_plans_61 ?_
                    refine lv_iload_n hx hb dX3_plans_64 rfl (lv_at hl 3 rfl) ?_
                    refine x_iald (k := i) (f := g 28) hx hb hK hP 23 rfl (by omega) (by decide) dX3_plans_65 ?_
                    refine lv_iload_n hx hb dX3_plans_66 rfl (lv_at hl 2 rfl) ?_
                    refine x_rdS (As := [.int (nI s1)]) (rest := [.int (g 28 i)]) ⟨hx, hb, hml, hown, hts⟩ (tX3_many l D cI cZ cC s1 (by omega)) (va_cwS 1 hts gX3_plans_X3_many rfl rfl rfl (by decide +kernel) ⟨Nat.le_of_ble_eq_true rfl, Nat.le_of_ble_eq_true rfl⟩) hK trivial rfl hl.1 rfl (Nat.le_of_ble_eq_true rfl) dX3_plans_67 ⟨Nat.le_of_ble_eq_true rfl, Nat.le_of_ble_eq_true rfl⟩ (fun r_16 er_16 => ?_)
                    have er_16 : r_16 = nI (popG 16 s1) := er_16
                    subst er_16
                    refine lv_imul hx hb dX3_plans_70 ?_
                    refine lv_aload_n hx hb dX3_plans_71 rfl (lv_at hl 1 rfl) ?_
                    refine va_get (D := D) (ci := 3) (v := .ref (q 31)) (C := RX3) (T := TX3) (N := 33) hx hb hts hinX3 hown hK hP 0 rfl rfl 31 (by decide) (hts (.fieldLink RX3 87 "TroubleCodesModel" "sum" "[I") (mem_at 2 rfl)) (fun _ h9 => h9) rfl dX3_plans_72 ?_
                    refine lv_iload_n hx hb dX3_plans_75 rfl (lv_at hl 0 rfl) ?_
                    refine x_iald (k := (wiN (g 30) s1 i L)) (f := upd S s1 pa) hx hb hK hP 25 rfl (by omega) (by decide) dX3_plans_76 ?_
                    rw [pk_un (show wiN (g 30) s1 i L ≠ s1 from fun h => c_13 (by rw [h]))]
                    refine lv_iadd hx hb dX3_plans_77 ?_
                    refine lv_aload_n hx hb dX3_plans_78 rfl (lv_at hl 1 rfl) ?_
                    refine va_get (D := D) (ci := 3) (v := .ref (q 31)) (C := RX3) (T := TX3) (N := 33) hx hb hts hinX3 hown hK hP 0 rfl rfl 31 (by decide) (hts (.fieldLink RX3 87 "TroubleCodesModel" "sum" "[I") (mem_at 2 rfl)) (fun _ h9 => h9) rfl dX3_plans_79 ?_
                    refine lv_iload_n hx hb dX3_plans_82 rfl (lv_at hl 2 rfl) ?_
                    refine lv_iload_n hx hb dX3_plans_83 rfl (lv_at hl 0 rfl) ?_
                    refine lv_iconst (v := (-1)) hx hb dX3_plans_84 (by decide) ?_
                    refine lv_ixor hx hb dX3_plans_85 ?_
                    refine lv_iand hx hb dX3_plans_86 ?_
                    rw [andc (by omega) hsub]
                    refine x_iald (k := (s1 - wiN (g 30) s1 i L)) (f := upd S s1 pa) hx hb hK hP 25 rfl (by omega) (by decide) dX3_plans_87 ?_
                    rw [pk_un (show s1 - wiN (g 30) s1 i L ≠ s1 from fun h => c_10 (by rw [show wiN (g 30) s1 i L = 0 by omega]; rfl))]
                    refine lv_iadd hx hb dX3_plans_88 ?_
                    refine lv_istore (lv' := [(4, .int ((((g 28 i) * (nI (popG 16 s1))) + (S (wiN (g 30) s1 i L))) + (S (s1 - wiN (g 30) s1 i L)))), (3, .int (nI (wiN (g 30) s1 i L))), (0, .ref o), (1, .int (nI s1)), (2, .int (nI i))]) hx hb dX3_plans_89 hl (by decide) rfl (fun ls hl => ?_)
                    refine lv_aload_n hx hb dX3_plans_91 rfl (lv_at hl 2 rfl) ?_
                    refine va_get (D := D) (ci := 3) (v := .ref (q 32)) (C := RX3) (T := TX3) (N := 33) hx hb hts hinX3 hown hK hP 0 rfl rfl 32 (by decide) (hts (.fieldLink RX3 90 "TroubleCodesModel" "first" "[I") (mem_at 3 rfl)) (fun _ h9 => h9) rfl dX3_plans_92 ?_
                    refine lv_iload_n hx hb dX3_plans_95 rfl (lv_at hl 3 rfl) ?_
                    refine x_iald (k := s1) (f := upd F s1 pb) hx hb hK hP 26 rfl (by omega) (by decide) dX3_plans_96 ?_
                    rw [pk_us]
                    refine lv_iconst (v := (-1)) hx hb dX3_plans_97 (by decide) ?_
                    refine lv_icmp_eq (tgt := 112) hx hb dX3_plans_98 (by decide) (fun c_17 => ?_) (fun c_17 => ?_)
                    · refine lv_aload_n hx hb dX3_plans_112 rfl (lv_at hl 2 rfl) ?_
                      refine va_get (D := D) (ci := 3) (v := .ref (q 31)) (C := RX3) (T := TX3) (N := 33) hx hb hts hinX3 hown hK hP 0 rfl rfl 31 (by decide) (hts (.fieldLink RX3 87 "TroubleCodesModel" "sum" "[I") (mem_at 2 rfl)) (fun _ h9 => h9) rfl dX3_plans_113 ?_
                      refine lv_iload_n hx hb dX3_plans_116 rfl (lv_at hl 3 rfl) ?_
                      refine lv_iload hx hb dX3_plans_117 (lv_at hl 0 rfl) ?_
                      refine x_iast (k := s1) (f := upd S s1 pa) (x := (((g 28 i) * (nI (popG 16 s1))) + (S (wiN (g 30) s1 i L))) + (S (s1 - wiN (g 30) s1 i L))) hx hb hK hP hD hS 25 rfl (by omega) (by decide) dX3_plans_119 (fun H locs hP hD hS => ?_)
                      have hP : va_P D vwCl (mW cI cZ q o (va_up (va_up g 31 (upd (upd S s1 pa) s1 ((((g 28 i) * (nI (popG 16 s1))) + (S (wiN (g 30) s1 i L))) + (S (s1 - wiN (g 30) s1 i L))))) 32 (upd F s1 pb))) H := hP
                      have hD : va_D A (mW cI cZ q o (va_up (va_up g 31 (upd (upd S s1 pa) s1 ((((g 28 i) * (nI (popG 16 s1))) + (S (wiN (g 30) s1 i L))) + (S (s1 - wiN (g 30) s1 i L))))) 32 (upd F s1 pb))) := hD
                      refine lv_aload_n hx hb dX3_plans_120 rfl (lv_at hl 2 rfl) ?_
                      refine va_get (D := D) (ci := 3) (v := .ref (q 32)) (C := RX3) (T := TX3) (N := 33) hx hb hts hinX3 hown hK hP 0 rfl rfl 32 (by decide) (hts (.fieldLink RX3 90 "TroubleCodesModel" "first" "[I") (mem_at 3 rfl)) (fun _ h9 => h9) rfl dX3_plans_121 ?_
                      refine lv_iload_n hx hb dX3_plans_124 rfl (lv_at hl 3 rfl) ?_
                      refine lv_iload_n hx hb dX3_plans_125 rfl (lv_at hl 4 rfl) ?_
                      refine x_iast (k := s1) (f := upd F s1 pb) (x := nI i) hx hb hK hP hD hS 26 rfl (by omega) (by decide) dX3_plans_126 (fun H locs hP hD hS => ?_)
                      have hP : va_P D vwCl (mW cI cZ q o (va_up (va_up g 31 (upd (upd S s1 pa) s1 ((((g 28 i) * (nI (popG 16 s1))) + (S (wiN (g 30) s1 i L))) + (S (s1 - wiN (g 30) s1 i L))))) 32 (upd (upd F s1 pb) s1 (nI i)))) H := hP
                      have hD : va_D A (mW cI cZ q o (va_up (va_up g 31 (upd (upd S s1 pa) s1 ((((g 28 i) * (nI (popG 16 s1))) + (S (wiN (g 30) s1 i L))) + (S (s1 - wiN (g 30) s1 i L))))) 32 (upd (upd F s1 pb) s1 (nI i)))) := hD
                      refine lv_iinc (v := nI (i + 1)) (lv' := [(2, .int (nI (i + 1))), (4, .int ((((g 28 i) * (nI (popG 16 s1))) + (S (wiN (g 30) s1 i L))) + (S (s1 - wiN (g 30) s1 i L)))), (3, .int (nI (wiN (g 30) s1 i L))), (0, .ref o), (1, .int (nI s1))]) hx hb dX3_plans_127 hl (k := 4) rfl (nI_1 _) (by decide) rfl (fun ls hl => ?_)
                      refine lv_goto (tgt := 28) hx hb dX3_plans_130 (by decide) ?_
                      have hq_18 : plI (g 28) (g 30) S L s1 (i + 1) = ((g 28 i * nI (popG 16 s1) + S (wiN (g 30) s1 i L) + S (s1 - wiN (g 30) s1 i L)), nI i) := by rw [plI, if_pos ⟨(fun h => c_10 (by rw [h]; rfl)), (fun h => c_13 (by rw [h])), Or.inl (by rw [hpl]; exact c_17)⟩]
                      have q_19 : va_up (va_up g 31 (upd S s1 (if 1 < popG 16 s1 then plI (g 28) (g 30) S L s1 (i + 1) else (0, -1)).1)) 32 (upd F s1 (if 1 < popG 16 s1 then plI (g 28) (g 30) S L s1 (i + 1) else (0, -1)).2) = va_up (va_up g 31 (upd (upd S s1 pa) s1 ((((g 28 i) * (nI (popG 16 s1))) + (S (wiN (g 30) s1 i L))) + (S (s1 - wiN (g 30) s1 i L))))) 32 (upd (upd F s1 pb) s1 (nI i)) := by rw [if_pos hp1, hq_18]; simp only [upd_upd]
                      exact ih2 (i + 1) (by omega) (by omega) H locs ls (by rw [q_19]; exact hP) (by rw [q_19]; exact hD) hS (by exact lv_sub hl [3, 4, 0] rfl)
                    · refine lv_iload hx hb dX3_plans_101 (lv_at hl 0 rfl) ?_
                      refine lv_aload_n hx hb dX3_plans_103 rfl (lv_at hl 2 rfl) ?_
                      refine va_get (D := D) (ci := 3) (v := .ref (q 31)) (C := RX3) (T := TX3) (N := 33) hx hb hts hinX3 hown hK hP 0 rfl rfl 31 (by decide) (hts (.fieldLink RX3 87 "TroubleCodesModel" "sum" "[I") (mem_at 2 rfl)) (fun _ h9 => h9) rfl dX3_plans_104 ?_
                      refine lv_iload_n hx hb dX3_plans_107 rfl (lv_at hl 3 rfl) ?_
                      refine x_iald (k := s1) (f := upd S s1 pa) hx hb hK hP 25 rfl (by omega) (by decide) dX3_plans_108 ?_
                      rw [pk_us]
                      refine lv_icmp_ge (tgt := 127) hx hb dX3_plans_109 (by decide) (fun c_20 => ?_) (fun c_20 => ?_)
                      · refine lv_iinc (v := nI (i + 1)) (lv' := [(2, .int (nI (i + 1))), (4, .int ((((g 28 i) * (nI (popG 16 s1))) + (S (wiN (g 30) s1 i L))) + (S (s1 - wiN (g 30) s1 i L)))), (3, .int (nI (wiN (g 30) s1 i L))), (0, .ref o), (1, .int (nI s1))]) hx hb dX3_plans_127 hl (k := 4) rfl (nI_1 _) (by decide) rfl (fun ls hl => ?_)
                        refine lv_goto (tgt := 28) hx hb dX3_plans_130 (by decide) ?_
                        have hq_21 : plI (g 28) (g 30) S L s1 (i + 1) = (pa, pb) := by rw [plI, if_neg (fun h => h.2.2.elim (fun h => c_17 (by rw [hpl] at h; exact h)) (fun h => absurd h (by rw [hpl]; exact Int32.not_lt.mpr c_20))), hpl]
                        have q_22 : va_up (va_up g 31 (upd S s1 (if 1 < popG 16 s1 then plI (g 28) (g 30) S L s1 (i + 1) else (0, -1)).1)) 32 (upd F s1 (if 1 < popG 16 s1 then plI (g 28) (g 30) S L s1 (i + 1) else (0, -1)).2) = va_up (va_up g 31 (upd S s1 pa)) 32 (upd F s1 pb) := by rw [if_pos hp1, hq_21]
                        exact ih2 (i + 1) (by omega) (by omega) H locs ls (by rw [q_22]; exact hP) (by rw [q_22]; exact hD) hS (by exact lv_sub hl [3, 4, 0] rfl)
                      · refine lv_aload_n hx hb dX3_plans_112 rfl (lv_at hl 2 rfl) ?_
                        refine va_get (D := D) (ci := 3) (v := .ref (q 31)) (C := RX3) (T := TX3) (N := 33) hx hb hts hinX3 hown hK hP 0 rfl rfl 31 (by decide) (hts (.fieldLink RX3 87 "TroubleCodesModel" "sum" "[I") (mem_at 2 rfl)) (fun _ h9 => h9) rfl dX3_plans_113 ?_
                        refine lv_iload_n hx hb dX3_plans_116 rfl (lv_at hl 3 rfl) ?_
                        refine lv_iload hx hb dX3_plans_117 (lv_at hl 0 rfl) ?_
                        refine x_iast (k := s1) (f := upd S s1 pa) (x := (((g 28 i) * (nI (popG 16 s1))) + (S (wiN (g 30) s1 i L))) + (S (s1 - wiN (g 30) s1 i L))) hx hb hK hP hD hS 25 rfl (by omega) (by decide) dX3_plans_119 (fun H locs hP hD hS => ?_)
                        have hP : va_P D vwCl (mW cI cZ q o (va_up (va_up g 31 (upd (upd S s1 pa) s1 ((((g 28 i) * (nI (popG 16 s1))) + (S (wiN (g 30) s1 i L))) + (S (s1 - wiN (g 30) s1 i L))))) 32 (upd F s1 pb))) H := hP
                        have hD : va_D A (mW cI cZ q o (va_up (va_up g 31 (upd (upd S s1 pa) s1 ((((g 28 i) * (nI (popG 16 s1))) + (S (wiN (g 30) s1 i L))) + (S (s1 - wiN (g 30) s1 i L))))) 32 (upd F s1 pb))) := hD
                        refine lv_aload_n hx hb dX3_plans_120 rfl (lv_at hl 2 rfl) ?_
                        refine va_get (D := D) (ci := 3) (v := .ref (q 32)) (C := RX3) (T := TX3) (N := 33) hx hb hts hinX3 hown hK hP 0 rfl rfl 32 (by decide) (hts (.fieldLink RX3 90 "TroubleCodesModel" "first" "[I") (mem_at 3 rfl)) (fun _ h9 => h9) rfl dX3_plans_121 ?_
                        refine lv_iload_n hx hb dX3_plans_124 rfl (lv_at hl 3 rfl) ?_
                        refine lv_iload_n hx hb dX3_plans_125 rfl (lv_at hl 4 rfl) ?_
                        refine x_iast (k := s1) (f := upd F s1 pb) (x := nI i) hx hb hK hP hD hS 26 rfl (by omega) (by decide) dX3_plans_126 (fun H locs hP hD hS => ?_)
                        have hP : va_P D vwCl (mW cI cZ q o (va_up (va_up g 31 (upd (upd S s1 pa) s1 ((((g 28 i) * (nI (popG 16 s1))) + (S (wiN (g 30) s1 i L))) + (S (s1 - wiN (g 30) s1 i L))))) 32 (upd (upd F s1 pb) s1 (nI i)))) H := hP
                        have hD : va_D A (mW cI cZ q o (va_up (va_up g 31 (upd (upd S s1 pa) s1 ((((g 28 i) * (nI (popG 16 s1))) + (S (wiN (g 30) s1 i L))) + (S (s1 - wiN (g 30) s1 i L))))) 32 (upd (upd F s1 pb) s1 (nI i)))) := hD
                        refine lv_iinc (v := nI (i + 1)) (lv' := [(2, .int (nI (i + 1))), (4, .int ((((g 28 i) * (nI (popG 16 s1))) + (S (wiN (g 30) s1 i L))) + (S (s1 - wiN (g 30) s1 i L)))), (3, .int (nI (wiN (g 30) s1 i L))), (0, .ref o), (1, .int (nI s1))]) hx hb dX3_plans_127 hl (k := 4) rfl (nI_1 _) (by decide) rfl (fun ls hl => ?_)
                        refine lv_goto (tgt := 28) hx hb dX3_plans_130 (by decide) ?_
                        have hq_23 : plI (g 28) (g 30) S L s1 (i + 1) = ((g 28 i * nI (popG 16 s1) + S (wiN (g 30) s1 i L) + S (s1 - wiN (g 30) s1 i L)), nI i) := by rw [plI, if_pos ⟨(fun h => c_10 (by rw [h]; rfl)), (fun h => c_13 (by rw [h])), Or.inr (by rw [hpl]; exact Int32.not_le.mp c_20)⟩]
                        have q_24 : va_up (va_up g 31 (upd S s1 (if 1 < popG 16 s1 then plI (g 28) (g 30) S L s1 (i + 1) else (0, -1)).1)) 32 (upd F s1 (if 1 < popG 16 s1 then plI (g 28) (g 30) S L s1 (i + 1) else (0, -1)).2) = va_up (va_up g 31 (upd (upd S s1 pa) s1 ((((g 28 i) * (nI (popG 16 s1))) + (S (wiN (g 30) s1 i L))) + (S (s1 - wiN (g 30) s1 i L))))) 32 (upd (upd F s1 pb) s1 (nI i)) := by rw [if_pos hp1, hq_23]; simp only [upd_upd]
                        exact ih2 (i + 1) (by omega) (by omega) H locs ls (by rw [q_24]; exact hP) (by rw [q_24]; exact hD) hS (by exact lv_sub hl [3, 4, 0] rfl)
        have q_25 : (nI 0 : Int32) = 0 := by rfl
        exact LOOP_3 (mm - 0 + 1) 0 (Nat.zero_le _) (Nat.lt_succ_self _) _ _ ls (by simp only [plI, ite_self]; exact hP) (by simp only [plI, ite_self]; exact hD) hS (by rw [q_25]; exact lv_sub hl [1, 2, 0] rfl)
  have q_26 : (nI 0 : Int32) = 0 := by rfl
  exact LOOP_1 (2 ^ L - 0 + 1) 0 (Nat.zero_le _) (Nat.lt_succ_self _) _ _ ls (by skip; exact hP) (by skip; exact hD) hS (by rw [q_26]; exact lv_sub hl [1, 0] rfl)

set_option maxHeartbeats 4000000 in
set_option maxRecDepth 100000 in
theorem tJ6_bitCount_0f7a4 (l : Launch) (D : va_G) (cI cZ cC : ClassId) (x : Nat) (hx16 : x < 65536) : RdC l yJ6_bitCount_0f7a4 wsJ6_bitCount_0f7a4 (rmK 0) D cI cZ cC [.int (nI x)] (fun _ => True) (fun ans => ans = nI (popG 16 x)) := by
  refine RdC.of (cc := cJ6_bitCount_0f7a4) (maxL := 1) (ret := .int) (by decide) rfl (Nat.le_of_ble_eq_true rfl) ?_
  intro p e s m args below meth c Q ls hx hb hml hts hown hK hP hret hl
  have hl : lv_has ls 1 [(0, .int (nI x))] := hl
  obtain ⟨hA1, hB1, hC1, hD1⟩ := bc_bd hx16
  refine lv_iload_n hx hb dJ6_bitCount_0f7a4_0 rfl (lv_at hl 0 rfl) ?_
  refine lv_iload_n hx hb dJ6_bitCount_0f7a4_1 rfl (lv_at hl 0 rfl) ?_
  refine lv_iconst (v := 1) hx hb dJ6_bitCount_0f7a4_2 (by decide) ?_
  refine lv_iushr (v := ((nI x).toUInt32 >>> ((1 : Int32).toUInt32 &&& Int32.toUInt32 31)).toInt32) hx hb dJ6_bitCount_0f7a4_3 rfl ?_
  rw [pk_ushrN (by omega) _ 1 (by decide)]
  refine lv_ldcw (v := 1431655765) hx hb hown (hts (.constant RJ6 265 (1431655765)) (mem_at 1 rfl)) dJ6_bitCount_0f7a4_4 ?_
  refine lv_iand hx hb dJ6_bitCount_0f7a4_7 ?_
  rw [show (1431655765 : Int32) = nI 1431655765 from rfl, nI_and]
  refine lv_isub hx hb dJ6_bitCount_0f7a4_8 ?_
  rw [pk_sub (by have := Nat.and_le_left (n := x / 2 ^ 1) (m := 1431655765); omega), show x - (x / 2 ^ 1 &&& 1431655765) = bcA x from rfl]
  refine lv_istore_n (lv' := [(0, .int (nI (bcA x)))]) hx hb dJ6_bitCount_0f7a4_9 rfl hl (by decide) rfl (fun ls hl => ?_)
  refine lv_iload_n hx hb dJ6_bitCount_0f7a4_10 rfl (lv_at hl 0 rfl) ?_
  refine lv_ldcw (v := 858993459) hx hb hown (hts (.constant RJ6 266 (858993459)) (mem_at 2 rfl)) dJ6_bitCount_0f7a4_11 ?_
  refine lv_iand hx hb dJ6_bitCount_0f7a4_14 ?_
  rw [show (858993459 : Int32) = nI 858993459 from rfl, nI_and]
  refine lv_iload_n hx hb dJ6_bitCount_0f7a4_15 rfl (lv_at hl 0 rfl) ?_
  refine lv_iconst (v := 2) hx hb dJ6_bitCount_0f7a4_16 (by decide) ?_
  refine lv_iushr (v := ((nI (bcA x)).toUInt32 >>> ((2 : Int32).toUInt32 &&& Int32.toUInt32 31)).toInt32) hx hb dJ6_bitCount_0f7a4_17 rfl ?_
  rw [pk_ushrN (by omega) _ 2 (by decide)]
  refine lv_ldcw (v := 858993459) hx hb hown (hts (.constant RJ6 266 (858993459)) (mem_at 2 rfl)) dJ6_bitCount_0f7a4_18 ?_
  refine lv_iand hx hb dJ6_bitCount_0f7a4_21 ?_
  rw [show (858993459 : Int32) = nI 858993459 from rfl, nI_and]
  refine lv_iadd hx hb dJ6_bitCount_0f7a4_22 ?_
  rw [nI_add, show (bcA x &&& 858993459) + (bcA x / 2 ^ 2 &&& 858993459) = bcB (bcA x) from rfl]
  refine lv_istore_n (lv' := [(0, .int (nI (bcB (bcA x))))]) hx hb dJ6_bitCount_0f7a4_23 rfl hl (by decide) rfl (fun ls hl => ?_)
  refine lv_iload_n hx hb dJ6_bitCount_0f7a4_24 rfl (lv_at hl 0 rfl) ?_
  refine lv_iload_n hx hb dJ6_bitCount_0f7a4_25 rfl (lv_at hl 0 rfl) ?_
  refine lv_iconst (v := 4) hx hb dJ6_bitCount_0f7a4_26 (by decide) ?_
  refine lv_iushr (v := ((nI (bcB (bcA x))).toUInt32 >>> ((4 : Int32).toUInt32 &&& Int32.toUInt32 31)).toInt32) hx hb dJ6_bitCount_0f7a4_27 rfl ?_
  rw [pk_ushrN (by omega) _ 4 (by decide)]
  refine lv_iadd hx hb dJ6_bitCount_0f7a4_28 ?_
  rw [nI_add]
  refine lv_ldcw (v := 252645135) hx hb hown (hts (.constant RJ6 267 (252645135)) (mem_at 3 rfl)) dJ6_bitCount_0f7a4_29 ?_
  refine lv_iand hx hb dJ6_bitCount_0f7a4_32 ?_
  rw [show (252645135 : Int32) = nI 252645135 from rfl, nI_and, show ((bcB (bcA x) + bcB (bcA x) / 2 ^ 4) &&& 252645135) = bcC (bcB (bcA x)) from rfl]
  refine lv_istore_n (lv' := [(0, .int (nI (bcC (bcB (bcA x)))))]) hx hb dJ6_bitCount_0f7a4_33 rfl hl (by decide) rfl (fun ls hl => ?_)
  refine lv_iload_n hx hb dJ6_bitCount_0f7a4_34 rfl (lv_at hl 0 rfl) ?_
  refine lv_iload_n hx hb dJ6_bitCount_0f7a4_35 rfl (lv_at hl 0 rfl) ?_
  refine lv_bipush (v := 8) hx hb dJ6_bitCount_0f7a4_36 (by decide) ?_
  refine lv_iushr (v := ((nI (bcC (bcB (bcA x)))).toUInt32 >>> ((8 : Int32).toUInt32 &&& Int32.toUInt32 31)).toInt32) hx hb dJ6_bitCount_0f7a4_38 rfl ?_
  rw [pk_ushrN (by omega) _ 8 (by decide)]
  refine lv_iadd hx hb dJ6_bitCount_0f7a4_39 ?_
  rw [nI_add, show bcC (bcB (bcA x)) + bcC (bcB (bcA x)) / 2 ^ 8 = bcD (bcC (bcB (bcA x))) from rfl]
  refine lv_istore_n (lv' := [(0, .int (nI (bcD (bcC (bcB (bcA x))))))]) hx hb dJ6_bitCount_0f7a4_40 rfl hl (by decide) rfl (fun ls hl => ?_)
  refine lv_iload_n hx hb dJ6_bitCount_0f7a4_41 rfl (lv_at hl 0 rfl) ?_
  refine lv_iload_n hx hb dJ6_bitCount_0f7a4_42 rfl (lv_at hl 0 rfl) ?_
  refine lv_bipush (v := 16) hx hb dJ6_bitCount_0f7a4_43 (by decide) ?_
  refine lv_iushr (v := ((nI (bcD (bcC (bcB (bcA x))))).toUInt32 >>> ((16 : Int32).toUInt32 &&& Int32.toUInt32 31)).toInt32) hx hb dJ6_bitCount_0f7a4_45 rfl ?_
  rw [pk_ushrN (by omega) _ 16 (by decide)]
  refine lv_iadd hx hb dJ6_bitCount_0f7a4_46 ?_
  rw [nI_add]
  refine lv_istore_n (lv' := [(0, .int (nI (bcD (bcC (bcB (bcA x))) + bcD (bcC (bcB (bcA x))) / 2 ^ 16)))]) hx hb dJ6_bitCount_0f7a4_47 rfl hl (by decide) rfl (fun ls hl => ?_)
  refine lv_iload_n hx hb dJ6_bitCount_0f7a4_48 rfl (lv_at hl 0 rfl) ?_
  refine lv_bipush (v := 63) hx hb dJ6_bitCount_0f7a4_49 (by decide) ?_
  refine lv_iand hx hb dJ6_bitCount_0f7a4_51 ?_
  rw [show (63 : Int32) = nI 63 from rfl, nI_and, show ((bcD (bcC (bcB (bcA x))) + bcD (bcC (bcB (bcA x))) / 2 ^ 16) &&& 63) = bcE (bcD (bcC (bcB (bcA x)))) from rfl]
  exact hret 52 _ _ (by rw [bc_eq hx16]) rfl dJ6_bitCount_0f7a4_52

/-! calls over one of two worlds that lie side by side -/
theorem left_P {D : va_G} {cl : List vw_C} {w1 w2 : va_W} {H : Heap} (h : va_P D cl (w1 ++ w2) H) : va_P D cl w1 H := fun k q hq => h k q (by rw [List.getElem?_append_left (List.getElem?_eq_some_iff.mp hq).1]; exact hq)
theorem right_P {D : va_G} {cl : List vw_C} {w1 w2 : va_W} {H : Heap} (h : va_P D cl (w1 ++ w2) H) : va_P D cl w2 H := fun k q hq => h (w1.length + k) q (by rw [List.getElem?_append_right (by omega), show w1.length + k - w1.length = k by omega]; exact hq)
theorem left_D {A : Nat → Prop} {w1 w2 : va_W} (h : va_D A (w1 ++ w2)) : va_D A w1 := by
  rw [va_D_iff] at h ⊢
  rw [List.map_append, List.nodup_append] at h
  exact ⟨h.1.1, fun q hq => h.2 q (List.mem_append_left _ hq)⟩
theorem right_D {A : Nat → Prop} {w1 w2 : va_W} (h : va_D A (w1 ++ w2)) : va_D A w2 := by
  rw [va_D_iff] at h ⊢
  rw [List.map_append, List.nodup_append] at h
  exact ⟨h.1.2.1, fun q hq => h.2 q (List.mem_append_right _ hq)⟩
section XL
variable {p : Program} {l : Launch} {e : Env} {R : Room} {s : State} {m : MethodId} {args : Array Value} {below : List Frame} {meth : Method} {c : Code} {H : Heap} {locs : List Loc} {cells slots : Nat} {Q : State → Prop}
variable {cc bytes : ByteArray} {nL maxL n index pc : Nat} {own C : String} {y : MethodName} {ret : Option FieldType} {ws : List Cond} {rm : Room} {Ts : List Cond} {b : Addr} {As rest st0 : List Value} {ls : Array Slot} {D : va_G} {cI cZ cC : ClassId} {A0 : Nat → Prop} {H0 : Heap} {w1 w2 w' : va_W}
theorem free_of {A0 : Nat → Prop} {w : va_W} {H0 H : Heap} {locs : List Loc} (hD : va_D A0 w) (hS : va_S A0 H0 H locs) (hA : ∀ q : Nat, H0.size ≤ q → A0 q) : ∀ q, va_A w H.size q → A0 q := fun q h => by
  rcases h with ⟨k, e, h⟩ | h
  · exact hD.2 k _ h
  · exact hA q (Nat.le_trans hS.1 h)
theorem x_lwR {post : Int32 → Prop} (S : CallFix p m c cc nL s args Ts own) (hM : WrI l y ws rm D cI cZ cC (.ref b :: As) w2 w' post) (cw : CallW R s args own C index y bytes maxL ret ws rm 0 0 n) (hK : va_K D vwCl (tyA cI cZ cC) s) (hr : ∃ cell : Cell, H[b]? = some cell ∧ cell.vm.isStatics = false ∧ s.vm.findClass C = some cell.cls) (hP : va_P D vwCl (w1 ++ w2) H) (hD : va_D A0 (w1 ++ w2)) (hS : va_S A0 H0 H locs) (hA : ∀ q : Nat, H0.size ≤ q → A0 q)
    (hn : As.length = n) (hsz : ls.size = nL) (hst : st0 = As.reverse ++ .ref b :: rest) (hW : (rest.map fun v => v.category).sum ≤ 8) (hdg : decode cc pc = .ok (.invokevirtual index, 3)) (hf : cells + 0 ≤ R.cells ∧ slots + 0 ≤ R.slots)
    (kk : ∀ (r : Int32) (H1 : Heap) (locs1 : List Loc), post r → va_P D vwCl (w1 ++ w') H1 → va_D A0 (w1 ++ w') → va_S A0 H0 H1 locs1 → W p l e R s m args below meth c H1 locs1 cells slots Q (F0 m (pc + 3) ls (.int r :: rest))) : W p l e R s m args below meth c H locs cells slots Q (F0 m pc ls st0) := by
  subst hst
  have hF := free_of (right_D hD) hS hA
  refine va_calli (va_runV S (hM H.size) cw ⟨xPre_blind, hr, fun U hU hW => ⟨rfl, ⟨by rw [hU], by rw [hU]; exact right_P hP, (right_D hD).weaken (fun _ _ _ _ => trivial)⟩, va_K.moved hW.alike hK⟩⟩ rfl hn hsz rfl (lv_room hW) hdg hf) hS (fun q _ h => hF q h) hF (fun r u t H1 locs1 ht hvm hw hB hz1 hk1 hS1 => ?_)
  obtain ⟨hP1, hK1, hD1⟩ := hB
  rw [ht] at hP1
  obtain ⟨hP2, hD2⟩ := join_last hP hD hk1 hF hP1 hD1
  exact kk r H1 locs1 hw hP2 hD2 hS1
theorem x_lwL {post : Int32 → Prop} (S : CallFix p m c cc nL s args Ts own) (hM : WrI l y ws rm D cI cZ cC (.ref b :: As) w1 w' post) (cw : CallW R s args own C index y bytes maxL ret ws rm 0 0 n) (hK : va_K D vwCl (tyA cI cZ cC) s) (hr : ∃ cell : Cell, H[b]? = some cell ∧ cell.vm.isStatics = false ∧ s.vm.findClass C = some cell.cls) (hP : va_P D vwCl (w1 ++ w2) H) (hD : va_D A0 (w1 ++ w2)) (hS : va_S A0 H0 H locs) (hA : ∀ q : Nat, H0.size ≤ q → A0 q)
    (hn : As.length = n) (hsz : ls.size = nL) (hst : st0 = As.reverse ++ .ref b :: rest) (hW : (rest.map fun v => v.category).sum ≤ 8) (hdg : decode cc pc = .ok (.invokevirtual index, 3)) (hf : cells + 0 ≤ R.cells ∧ slots + 0 ≤ R.slots)
    (kk : ∀ (r : Int32) (H1 : Heap) (locs1 : List Loc), post r → va_P D vwCl (w' ++ w2) H1 → va_D A0 (w' ++ w2) → va_S A0 H0 H1 locs1 → W p l e R s m args below meth c H1 locs1 cells slots Q (F0 m (pc + 3) ls (.int r :: rest))) : W p l e R s m args below meth c H locs cells slots Q (F0 m pc ls st0) := by
  have hP' := va_P.perm hP (List.perm_append_comm (l₁ := w1) (l₂ := w2))
  have hD' := va_D.perm hD (List.perm_append_comm (l₁ := w1) (l₂ := w2))
  exact x_lwR S hM cw hK hr hP' hD' hS hA hn hsz hst hW hdg hf (fun r H1 locs1 hp hP1 hD1 hS1 => kk r H1 locs1 hp (va_P.perm hP1 List.perm_append_comm) (va_D.perm hD1 List.perm_append_comm) hS1)
theorem x_liL {post : Int32 → (Nat → Nat) → Prop} {after : (Nat → Nat) → va_W} {mc ms : Nat} (S : CallFix p m c cc nL s args Ts own) (hM : InI l y ws rm D cI cZ cC (.ref b :: As) w1 post after mc ms) (cw : CallW R s args own C index y bytes maxL ret ws rm mc ms n) (hK : va_K D vwCl (tyA cI cZ cC) s) (hr : ∃ cell : Cell, H[b]? = some cell ∧ cell.vm.isStatics = false ∧ s.vm.findClass C = some cell.cls) (hP0 : va_P D vwCl (w1 ++ w2) H) (hD0 : va_D A0 (w1 ++ w2)) (hS : va_S A0 H0 H locs) (hA : ∀ q : Nat, H0.size ≤ q → A0 q)
    (hn : As.length = n) (hsz : ls.size = nL) (hst : st0 = As.reverse ++ .ref b :: rest) (hW : (rest.map fun v => v.category).sum ≤ 8) (hdg : decode cc pc = .ok (.invokevirtual index, 3)) (hf : cells + mc ≤ R.cells ∧ slots + ms ≤ R.slots)
    (kk : ∀ (r : Int32) (u : Nat → Nat) (H1 : Heap) (locs1 : List Loc), post r u → va_P D vwCl (after u ++ w2) H1 → va_D A0 (after u ++ w2) → va_S A0 H0 H1 locs1 → W p l e R s m args below meth c H1 locs1 (cells + mc) (slots + ms) Q (F0 m (pc + 3) ls (.int r :: rest))) : W p l e R s m args below meth c H locs cells slots Q (F0 m pc ls st0) := by
  subst hst
  have hP := va_P.perm hP0 (List.perm_append_comm (l₁ := w1) (l₂ := w2))
  have hD := va_D.perm hD0 (List.perm_append_comm (l₁ := w1) (l₂ := w2))
  have hF := free_of (right_D hD) hS hA
  refine va_calli (va_runV S (hM H.size) cw ⟨xPre_blind, hr, fun U hU hW => ⟨rfl, ⟨by rw [hU], by rw [hU]; exact right_P hP, (right_D hD).weaken (fun _ _ _ _ => trivial)⟩, va_K.moved hW.alike hK⟩⟩ rfl hn hsz rfl (lv_room hW) hdg hf) hS (fun q _ h => hF q h) hF (fun r u t H1 locs1 ht hvm hw hB hz1 hk1 hS1 => ?_)
  obtain ⟨hP1, hK1, hD1⟩ := hB
  rw [ht] at hP1
  obtain ⟨hP2, hD2⟩ := join_last hP hD hk1 hF hP1 hD1
  exact kk r u H1 locs1 hw (va_P.perm hP2 List.perm_append_comm) (va_D.perm hD2 List.perm_append_comm) hS1
end XL
theorem tb_in20 {x : Int32} (c : ¬ (x.toInt < 0 ∨ 20 < x.toInt)) : x = 0 ∨ x = 1 ∨ x = 2 ∨ x = 3 ∨ x = 4 ∨ x = 5 ∨ x = 6 ∨ x = 7 ∨ x = 8 ∨ x = 9 ∨ x = 10 ∨ x = 11 ∨ x = 12 ∨ x = 13 ∨ x = 14 ∨ x = 15 ∨ x = 16 ∨ x = 17 ∨ x = 18 ∨ x = 19 ∨ x = 20 := by
  have h2 : x = Int32.ofInt x.toInt := (Int32.ofInt_toInt x).symm
  rcases (by omega : x.toInt = 0 ∨ x.toInt = 1 ∨ x.toInt = 2 ∨ x.toInt = 3 ∨ x.toInt = 4 ∨ x.toInt = 5 ∨ x.toInt = 6 ∨ x.toInt = 7 ∨ x.toInt = 8 ∨ x.toInt = 9 ∨ x.toInt = 10 ∨ x.toInt = 11 ∨ x.toInt = 12 ∨ x.toInt = 13 ∨ x.toInt = 14 ∨ x.toInt = 15 ∨ x.toInt = 16 ∨ x.toInt = 17 ∨ x.toInt = 18 ∨ x.toInt = 19 ∨ x.toInt = 20) with h | h | h | h | h | h | h | h | h | h | h | h | h | h | h | h | h | h | h | h | h <;> rw [h] at h2 <;> rw [h2] <;> decide
theorem law_ix {i L k : Nat} {x y : Int32} (hx : x = nI i) (hy : y = nI k) (h : i + k < L) (hL : L ≤ 4096) : vp_in (x + y) L := by
  rw [hx, hy, nI_add]; exact vp_in_nI h (by omega)

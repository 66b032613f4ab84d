def ckR (ad : Nat → Nat) (n : Nat) : Nat → Option Nat := fun k => if k < n then some (ad (16 + k)) else none
abbrev cHd (cI cC : ClassId) (ad : Nat → Nat) (n : Nat) (t v : Nat → Nat → Int32) : va_W := (ad 0, .inr (2, tF ad t)) :: (ad 1, .inl (cC, 16, .inr (.inr (.inr (.inr (ckR ad n)))))) :: (ad 2, .inl (cI, 4, .inl (t 2))) :: wW cI ad v
def plC (ad : Nat → Nat) (n : Nat) (C : Nat → Nat → Int32) : va_W := (List.range n).map (fun k => (ad (16 + k), .inr (0, kF (ad (32 + k)) (ad (48 + k)) (C k))))
def plF (cI : ClassId) (ad : Nat → Nat) (b z n : Nat) (FF : Nat → Nat → Int32) : va_W := (List.range n).map (fun k => (ad (b + k), .inl (cI, z, .inl (FF k))))
abbrev cW (cI cC : ClassId) (ad : Nat → Nat) (n : Nat) (t v C FF FO : Nat → Nat → Int32) : va_W := cHd cI cC ad n t v ++ (plC ad n C ++ (plF cI ad 32 4 n FF ++ plF cI ad 48 16 n FO))
theorem rm_get {α : Type} {n k : Nat} (F : Nat → α) (h : k < n) : ((List.range n).map F)[k]? = some (F k) := by
  rw [List.getElem?_map, List.getElem?_range h]; rfl
theorem rm_set {α : Type} {n k : Nat} (F : Nat → α) (x : α) : ((List.range n).map F).set k x = (List.range n).map (va_up F k x) := by
  apply List.ext_getElem?
  intro i
  by_cases hi : i < n
  · rw [rm_get _ hi]
    by_cases e : k = i
    · subst e; rw [List.getElem?_set_self (by simpa using hi)]; simp [va_up]
    · rw [List.getElem?_set_ne e, rm_get _ hi]; simp [va_up, Ne.symm e]
  · rw [List.getElem?_eq_none (by simp; omega), List.getElem?_eq_none (by simp; omega)]
section CWS
variable {cI cC : ClassId} {ad : Nat → Nat} {n k : Nat} {t v C FF FO : Nat → Nat → Int32}
theorem cW_k (h : k < n) : (cW cI cC ad n t v C FF FO)[10 + k]? = some (ad (16 + k), .inr (0, kF (ad (32 + k)) (ad (48 + k)) (C k))) := by
  rw [List.getElem?_append_right (by simp), show 10 + k - (cHd cI cC ad n t v).length = k by simp, List.getElem?_append_left (by simp [plC]; exact h)]
  exact rm_get _ h
theorem cW_f (h : k < n) : (cW cI cC ad n t v C FF FO)[10 + (n + k)]? = some (ad (32 + k), .inl (cI, 4, .inl (FF k))) := by
  rw [List.getElem?_append_right (by simp), show 10 + (n + k) - (cHd cI cC ad n t v).length = n + k by simp, List.getElem?_append_right (by simp [plC]), show n + k - (plC ad n C).length = k by simp [plC], List.getElem?_append_left (by simp [plF]; exact h)]
  exact rm_get _ h
theorem cW_o (h : k < n) : (cW cI cC ad n t v C FF FO)[10 + (n + (n + k))]? = some (ad (48 + k), .inl (cI, 16, .inl (FO k))) := by
  rw [List.getElem?_append_right (by simp), show 10 + (n + (n + k)) - (cHd cI cC ad n t v).length = n + (n + k) by simp, List.getElem?_append_right (by simp [plC]), show n + (n + k) - (plC ad n C).length = n + k by simp [plC], List.getElem?_append_right (by simp [plF]), show n + k - (plF cI ad 32 4 n FF).length = k by simp [plF]]
  exact rm_get _ h
theorem plC_up (c' : Nat → Int32) : (plC ad n C).set k (ad (16 + k), .inr (0, kF (ad (32 + k)) (ad (48 + k)) c')) = plC ad n (va_up C k c') := by
  unfold plC
  rw [rm_set]
  congr 1
  funext j
  by_cases e : j = k
  · subst e; simp [va_up]
  · simp [va_up, e]
theorem plF_up {b z : Nat} (f' : Nat → Int32) : (plF cI ad b z n FF).set k (ad (b + k), .inl (cI, z, .inl f')) = plF cI ad b z n (va_up FF k f') := by
  unfold plF
  rw [rm_set]
  congr 1
  funext j
  by_cases e : j = k
  · subst e; simp [va_up]
  · simp [va_up, e]
theorem cW_setk (h : k < n) (c' : Nat → Int32) : (cW cI cC ad n t v C FF FO).set (10 + k) (ad (16 + k), .inr (0, kF (ad (32 + k)) (ad (48 + k)) c')) = cW cI cC ad n t v (va_up C k c') FF FO := by
  rw [List.set_append_right _ _ (by simp), show 10 + k - (cHd cI cC ad n t v).length = k by simp, List.set_append_left _ _ (by simp [plC]; exact h), plC_up]
theorem cW_setf (h : k < n) (f' : Nat → Int32) : (cW cI cC ad n t v C FF FO).set (10 + (n + k)) (ad (32 + k), .inl (cI, 4, .inl f')) = cW cI cC ad n t v C (va_up FF k f') FO := by
  rw [List.set_append_right _ _ (by simp), show 10 + (n + k) - (cHd cI cC ad n t v).length = n + k by simp, List.set_append_right _ _ (by simp [plC]), show n + k - (plC ad n C).length = k by simp [plC], List.set_append_left _ _ (by simp [plF]; exact h), plF_up]
theorem cW_seto (h : k < n) (f' : Nat → Int32) : (cW cI cC ad n t v C FF FO).set (10 + (n + (n + k))) (ad (48 + k), .inl (cI, 16, .inl f')) = cW cI cC ad n t v C FF (va_up FO k f') := by
  rw [List.set_append_right _ _ (by simp), show 10 + (n + (n + k)) - (cHd cI cC ad n t v).length = n + (n + k) by simp, List.set_append_right _ _ (by simp [plC]), show n + (n + k) - (plC ad n C).length = n + k by simp [plC], List.set_append_right _ _ (by simp [plF]), show n + k - (plF cI ad 32 4 n FF).length = k by simp [plF], plF_up]
theorem cP_k {D : va_G} {H : Heap} (hP : va_P D vwCl (cW cI cC ad n t v C FF FO) H) (h : k < n) : va_P D vwCl [(ad (16 + k), .inr (0, kF (ad (32 + k)) (ad (48 + k)) (C k)))] H := sub_P hP [10 + k] (by rw [List.map_cons, List.map_nil, cW_k h]; rfl)
theorem cP_kk {D : va_G} {H : Heap} {j : Nat} (hP : va_P D vwCl (cW cI cC ad n t v C FF FO) H) (h : k < n) (hj : j < n) : va_P D vwCl [(ad (16 + k), .inr (0, kF (ad (32 + k)) (ad (48 + k)) (C k))), (ad (16 + j), .inr (0, kF (ad (32 + j)) (ad (48 + j)) (C j)))] H := sub_P hP [10 + k, 10 + j] (by rw [List.map_cons, List.map_cons, List.map_nil, cW_k h, cW_k hj]; rfl)
theorem cP_w {D : va_G} {H : Heap} (hP : va_P D vwCl (cW cI cC ad n t v C FF FO) H) : va_P D vwCl (wW cI ad v) H := sub_P hP [3, 4, 5, 6, 7, 8, 9] rfl
end CWS
def ckA (ad : Nat → Nat) (t : Nat → Nat → Int32) (x : Int32) : Option Nat := if 0 ≤ x ∧ x ≤ t 1 0 - 1 then some (ad (16 + ix x)) else none
theorem ckA_k {ad : Nat → Nat} {t : Nat → Nat → Int32} {n j : Nat} (hn : t 1 0 = nI n) (hnb : n ≤ 16) (h : j < n) : ckA ad t (nI j) = some (ad (16 + j)) := by
  rw [ckA, if_pos (ixck_nI hn (by omega) h), ix_nI (by omega)]
theorem ckA_n {ad : Nat → Nat} {t : Nat → Nat → Int32} {x : Int32} (h : ¬ (0 ≤ x ∧ x ≤ t 1 0 - 1)) : ckA ad t x = none := if_neg h
def heldC (C : Nat → Nat → Int32) (k : Nat) : Int32 := bI (C k 0 = 2 ∧ (C (ix (C k 1)) 7 = 1 ∨ C (ix (C k 1)) 7 = 2))
def lfC (C : Nat → Nat → Int32) : Nat → Option Nat
  | 0 => none
  | k + 1 => if ¬ C k 13 = -1 ∧ ¬ C k 0 = 1 ∧ (∀ j, lfC C k = some j → C k 5 < C j 5 ∨ (C k 5 = C j 5 ∧ C k 14 < C j 14)) then some k else lfC C k
theorem lfC_lt (C : Nat → Nat → Int32) : ∀ k j, lfC C k = some j → j < k ∧ ¬ C j 13 = -1 ∧ ¬ C j 0 = 1
  | 0, j, h => by cases h
  | k + 1, j, h => by
    rw [lfC] at h
    split at h
    · rename_i q
      cases h; exact ⟨Nat.lt_succ_self _, q.1, q.2.1⟩
    · have := lfC_lt C k j h
      exact ⟨by omega, this.2⟩
def cbF (C : Nat → Nat → Int32) (w : Int32) : Nat → Int32
  | 0 => 0
  | k + 1 => if C k 7 = w then cbF C w k ||| (1 <<< (nI k &&& 31)) else cbF C w k
def rbF (C : Nat → Nat → Int32) : Nat → Int32
  | 0 => 0
  | k + 1 => if C k 12 = 0 then rbF C k else rbF C k ||| (1 <<< (nI k &&& 31))

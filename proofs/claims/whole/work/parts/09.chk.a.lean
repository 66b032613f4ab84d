theorem join_last {A0 : Nat → Prop} {D : va_G} {cl : List vw_C} {ws wc w1 : va_W} {H H1 : Heap} (hP : va_P D cl (ws ++ wc) H) (hD : va_D A0 (ws ++ wc)) (hk : ∀ q : Nat, q < H.size → ¬ va_A wc H.size q → H1[q]? = H[q]?) (hF : ∀ q, va_A wc H.size q → A0 q) (hP1 : va_P D cl w1 H1) (hD1 : va_D (va_A wc H.size) w1) : va_P D cl (ws ++ w1) H1 ∧ va_D A0 (ws ++ w1) := by
  have at1 : ∀ (k : Nat) (q : Nat × va_E), ws[k]? = some q → (ws ++ wc)[k]? = some q := fun k q hq => by
    rw [List.getElem?_append_left (List.getElem?_eq_some_iff.mp hq).1]; exact hq
  have apart : ∀ (k : Nat) (q : Nat × va_E), ws[k]? = some q → q.1 < H.size ∧ ¬ va_A wc H.size q.1 := by
    intro k q hq
    have h1 := at1 k q hq
    have hl := (hP k q h1).lt
    refine ⟨hl, fun h => ?_⟩
    rcases h with ⟨j, e, hj⟩ | h
    · have h2 : (ws ++ wc)[ws.length + j]? = some (q.1, e) := by
        rw [List.getElem?_append_right (by omega), show ws.length + j - ws.length = j by omega]; exact hj
      have h3 := hD.1 _ _ _ _ h1 h2 rfl
      have h4 := (List.getElem?_eq_some_iff.mp hq).1
      omega
    · omega
  have hDw : va_D A0 ws := ⟨fun i j x y hi hj h => hD.1 i j x y (at1 i x hi) (at1 j y hj) h, fun k q hq => hD.2 k q (at1 k q hq)⟩
  refine ⟨va_P.app (fun k q hq => ?_) hP1, va_D.app hDw (hD1.weaken (fun k q _ h => hF q.1 h)) (fun i j x y hx hy hxy => ?_)⟩
  · obtain ⟨g1, g2⟩ := apart k q hq
    exact (hP k q (at1 k q hq)).kept (hk q.1 g1 g2)
  · exact (apart i x hx).2 (by rw [hxy]; exact hD1.2 j y hy)
theorem va_P.perm {D : va_G} {cl : List vw_C} {ws ws' : va_W} {H : Heap} (h : va_P D cl ws H) (hp : ws.Perm ws') : va_P D cl ws' H := by
  intro k q hk
  obtain ⟨i, hi⟩ := List.getElem?_of_mem (hp.mem_iff.mpr (List.mem_of_getElem? hk))
  exact h i q hi
theorem nd_iff {l : List Nat} : l.Nodup ↔ ∀ i j, i < j → j < l.length → l[i]? ≠ l[j]? := by
  unfold List.Nodup
  rw [List.pairwise_iff_getElem]
  constructor
  · intro h i j hij hj e
    rw [List.getElem?_eq_getElem (by omega), List.getElem?_eq_getElem hj] at e
    exact h i j (by omega) hj hij (Option.some.inj e)
  · intro h i j hi hj hij e
    exact h i j hij hj (by rw [List.getElem?_eq_getElem hi, List.getElem?_eq_getElem hj, e])
theorem va_D_iff {A : Nat → Prop} {ws : va_W} : va_D A ws ↔ (ws.map Prod.fst).Nodup ∧ ∀ q ∈ ws, A q.1 := by
  constructor
  · intro h
    refine ⟨?_, fun q hq => ?_⟩
    · rw [nd_iff]
      intro i j hij hj e
      rw [List.length_map] at hj
      have hi : i < ws.length := by omega
      rw [List.getElem?_map, List.getElem?_map, List.getElem?_eq_getElem hi, List.getElem?_eq_getElem hj] at e
      have := h.1 i j _ _ (List.getElem?_eq_getElem hi) (List.getElem?_eq_getElem hj) (by simpa using e)
      omega
    · obtain ⟨i, hi⟩ := List.getElem?_of_mem hq
      exact h.2 i q hi
  · intro ⟨h1, h2⟩
    refine ⟨fun i j x y hi hj e => ?_, fun k q hk => h2 q (List.mem_of_getElem? hk)⟩
    rw [nd_iff] at h1
    have li := (List.getElem?_eq_some_iff.mp hi).1
    have lj := (List.getElem?_eq_some_iff.mp hj).1
    have key : (ws.map Prod.fst)[i]? = (ws.map Prod.fst)[j]? := by rw [List.getElem?_map, List.getElem?_map, hi, hj]; simp [e]
    rcases Nat.lt_trichotomy i j with q | q | q
    · exact absurd key (h1 i j q (by simpa using lj))
    · exact q
    · exact absurd key.symm (h1 j i q (by simpa using li))
theorem va_D.perm {A : Nat → Prop} {ws ws' : va_W} (h : va_D A ws) (hp : ws.Perm ws') : va_D A ws' := by
  rw [va_D_iff] at h ⊢
  exact ⟨(hp.map Prod.fst).nodup_iff.mp h.1, fun q hq => h.2 q (hp.mem_iff.mpr hq)⟩
theorem perm3 {α : Type} (X P1 P2 P3 : List α) (a b c : α) : ((X ++ (P1 ++ (P2 ++ P3))) ++ [a, b, c]).Perm (X ++ ((P1 ++ [a]) ++ ((P2 ++ [b]) ++ (P3 ++ [c])))) := by
  simp only [List.append_assoc]
  refine List.Perm.append_left X (List.Perm.append_left P1 ?_)
  have h1 : (P2 ++ (P3 ++ [a, b, c])).Perm (a :: ((P2 ++ P3) ++ [b, c])) := by
    rw [← List.append_assoc]; exact List.perm_middle
  refine h1.trans (List.Perm.cons a ?_)
  rw [List.append_assoc]
  exact List.Perm.append_left P2 List.perm_middle
/-- the addresses with a new check's three cells -/
def adN (ad : Nat → Nat) (n q r1 r2 : Nat) : Nat → Nat := fun k => if k = 16 + n then q else if k = 32 + n then r1 else if k = 48 + n then r2 else ad k
theorem adN_16 {ad : Nat → Nat} {n q r1 r2 : Nat} : adN ad n q r1 r2 (16 + n) = q := by simp [adN]
theorem adN_32 {ad : Nat → Nat} {n q r1 r2 : Nat} : adN ad n q r1 r2 (32 + n) = r1 := by simp [adN]
theorem adN_48 {ad : Nat → Nat} {n q r1 r2 : Nat} : adN ad n q r1 r2 (48 + n) = r2 := by simp only [adN]; rw [if_neg (by omega), if_neg (by omega)]; simp
theorem adN_ne {ad : Nat → Nat} {n q r1 r2 k : Nat} (h1 : k ≠ 16 + n) (h2 : k ≠ 32 + n) (h3 : k ≠ 48 + n) : adN ad n q r1 r2 k = ad k := by simp [adN, h1, h2, h3]
theorem plC_n {ad : Nat → Nat} {n q r1 r2 : Nat} {C : Nat → Nat → Int32} {c : Nat → Int32} (hn : n < 16) : plC (adN ad n q r1 r2) (n + 1) (va_up C n c) = plC ad n C ++ [(q, .inr (0, kF r1 r2 c))] := by
  unfold plC
  rw [List.range_succ, List.map_append, List.map_singleton, adN_16, adN_32, adN_48, va_up_self]
  congr 1
  apply List.map_congr_left
  intro k hk
  have hk := List.mem_range.mp hk
  rw [adN_ne (by omega) (by omega) (by omega), adN_ne (by omega) (by omega) (by omega), adN_ne (by omega) (by omega) (by omega), va_up_ne _ _ (by omega)]
theorem plF_n {cI : ClassId} {ad : Nat → Nat} {b z n q r1 r2 r : Nat} {FF : Nat → Nat → Int32} {f : Nat → Int32} (hn : n < 16) (hb : (b = 32 ∧ r = r1) ∨ (b = 48 ∧ r = r2)) : plF cI (adN ad n q r1 r2) b z (n + 1) (va_up FF n f) = plF cI ad b z n FF ++ [(r, .inl (cI, z, .inl f))] := by
  unfold plF
  have e : adN ad n q r1 r2 (b + n) = r := by rcases hb with ⟨rfl, rfl⟩ | ⟨rfl, rfl⟩; exact adN_32; exact adN_48
  rw [List.range_succ, List.map_append, List.map_singleton, e, va_up_self]
  congr 1
  apply List.map_congr_left
  intro k hk
  have hk := List.mem_range.mp hk
  rw [adN_ne (by omega) (by omega) (by omega), va_up_ne _ _ (by omega)]
theorem ckR_n {ad : Nat → Nat} {n q r1 r2 : Nat} (hn : n < 16) : ckR (adN ad n q r1 r2) (n + 1) = va_up (ckR ad n) n (some q) := by
  funext k
  by_cases h : k = n
  · subst h; simp [ckR, va_up, adN_16]
  · by_cases h2 : k < n
    · simp only [ckR, va_up, if_neg h, if_pos h2]; rw [if_pos (by omega), adN_ne (by omega) (by omega) (by omega)]
    · simp only [ckR, va_up, if_neg h, if_neg h2]; rw [if_neg (by omega)]
theorem zX0 : ∀ j, j < 18 → defaultValue (tyX0 j) = vp_V [.int 0, .int 0, .int 0, .int 0, .int 0, .int 0, .int 0, .int 0, .int 0, .int 0, .int 0, .int 0, .int 0, .int 0, .int 0, .null, .int 0, .null] j := by
  intro j hj
  rcases (by omega : j = 0 ∨ j = 1 ∨ j = 2 ∨ j = 3 ∨ j = 4 ∨ j = 5 ∨ j = 6 ∨ j = 7 ∨ j = 8 ∨ j = 9 ∨ j = 10 ∨ j = 11 ∨ j = 12 ∨ j = 13 ∨ j = 14 ∨ j = 15 ∨ j = 16 ∨ j = 17) with rfl | rfl | rfl | rfl | rfl | rfl | rfl | rfl | rfl | rfl | rfl | rfl | rfl | rfl | rfl | rfl | rfl | rfl <;> rfl

/-! ===== the ground of this proof: contexts, contracts of readers and writers, calls ===== -/
abbrev rmK (d : Nat) : Room := { frames := d, cells := 0, slots := 0, locals := 40 * d }
abbrev rmA (d mc ms : Nat) : Room := { frames := d, cells := mc, slots := ms, locals := 40 * d }
abbrev tyA (cI cZ cC : ClassId) : List (ClassId × FieldType) := [(cI, .int), (cZ, .boolean), (cC, .object "TroubleCodes$Check")]
def bI (P : Prop) [Decidable P] : Int32 := if P then 1 else 0
theorem bI_t {P : Prop} [Decidable P] (h : P) : bI P = 1 := if_pos h
theorem bI_f {P : Prop} [Decidable P] (h : ¬ P) : bI P = 0 := if_neg h
theorem bI_ne {P : Prop} [Decidable P] (h : ¬ bI P = 0) : P := by
  by_cases q : P
  · exact q
  · exact absurd (bI_f q) h
theorem bI_eq {P : Prop} [Decidable P] (h : bI P = 0) : ¬ P := fun q => by
  rw [bI_t q] at h; exact absurd h (by decide)
theorem bI_01 (P : Prop) [Decidable P] : bI P = 0 ∨ bI P = 1 := by
  by_cases q : P
  · exact Or.inr (bI_t q)
  · exact Or.inl (bI_f q)
theorem bI_nar (P : Prop) [Decidable P] : narrow .boolean (.int (bI P)) = .int (bI P) := by
  by_cases q : P
  · rw [bI_t q]; rfl
  · rw [bI_f q]; rfl
theorem nar1 {x : Int32} (h : x = 0 ∨ x = 1) : narrow .boolean (.int x) = .int x := by
  rcases h with rfl | rfl <;> rfl
theorem narv1 {x : Int32} (h : x = 0 ∨ x = 1) : vp_nar .boolean x = x := by
  rcases h with rfl | rfl <;> rfl
theorem mem_at {l : List Cond} (i : Nat) {w : Cond} (h : l[i]? = some w) : w ∈ l := List.mem_of_getElem? h
theorem fit1 {x : Int32} (h : x = 0 ∨ x = 1) : fits .boolean (.int x) = true := by
  rcases h with rfl | rfl <;> rfl
def ix (x : Int32) : Nat := x.toNatClampNeg
theorem ix_nI {n : Nat} (h : n < 2 ^ 31) : ix (nI n) = n := nI_clamp h
theorem kx_lt {x : Int32} {n k : Nat} (hn : x = nI n) (hb : n < 2 ^ 31) (hk : k < 2 ^ 31) (c : ¬ x ≤ nI k) : k < n := by
  rw [hn] at c
  exact Nat.lt_of_not_le (fun h => c ((nI_leI hb hk).mpr h))
theorem kx_ge {x : Int32} {n k : Nat} (hn : x = nI n) (hb : n < 2 ^ 31) (hk : k < 2 ^ 31) (c : x ≤ nI k) : n ≤ k := by
  rw [hn] at c
  exact (nI_leI hb hk).mp c
def sumN (f : Nat → Int32) : Nat → Int32
  | 0 => 0
  | k + 1 => sumN f k + f k
def s1 (g : Nat → Nat → Int32) (k i : Nat) (x : Int32) : Nat → Nat → Int32 := va_up g k (upd (g k) i x)
def sc (g : Nat → Nat → Int32) (k : Nat) (x : Int32) : Nat → Nat → Int32 := va_up g k (fun _ => x)
abbrev xPre (D : va_G) (cI cZ cC : ClassId) (P : Heap → Prop) : State → Prop := fun U => P U.heap ∧ va_K D vwCl (tyA cI cZ cC) U
theorem xPre_blind {D : va_G} {cI cZ cC : ClassId} {P : Heap → Prop} {av : List Value} : FrameBlind (va_Pc av (xPre D cI cZ cC P)) := fun a U g mk h => ⟨h.1, h.2.1, va_K.moved (u := U) (U := U.calling g mk a) (Vm.Alike.refl U.vm) h.2.2⟩
/-- a method that only reads: its answer -/
def RdC (l : Launch) (y : MethodName) (ws : List Cond) (rm : Room) (D : va_G) (cI cZ cC : ClassId) (av : List Value) (P : Heap → Prop) (post : Int32 → Prop) : Prop := Met l y ws rm (va_Pc av (xPre D cI cZ cC P)) (vp_Si post) 0 0 (fun _ => False)
def RdL (l : Launch) (y : MethodName) (ws : List Cond) (rm : Room) (D : va_G) (cI cZ cC : ClassId) (av : List Value) (P : Heap → Prop) (post : Int64 → Prop) : Prop := Met l y ws rm (va_Pc av (xPre D cI cZ cC P)) (vp_Sl post) 0 0 (fun _ => False)
def RdQ (l : Launch) (y : MethodName) (ws : List Cond) (rm : Room) (D : va_G) (cI cZ cC : ClassId) (av : List Value) (P : Heap → Prop) (post : Option Nat → Prop) : Prop := Met l y ws rm (va_Pc av (xPre D cI cZ cC P)) (va_Sq post) 0 0 (fun _ => False)
abbrev xW (D : va_G) (w : va_W) (sz : Nat) : Heap → Prop := fun H => H.size = sz ∧ va_P D vwCl w H ∧ va_D (fun _ => True) w
abbrev xE (D : va_G) (cI cZ cC : ClassId) (w w' : va_W) (sz : Nat) : Unit → State → Prop := fun _ t => va_P D vwCl w' t.heap ∧ va_K D vwCl (tyA cI cZ cC) t ∧ va_D (va_A w sz) w'
/-- a method that writes in its world w, makes nothing, and leaves the world w' -/
def WrI (l : Launch) (y : MethodName) (ws : List Cond) (rm : Room) (D : va_G) (cI cZ cC : ClassId) (av : List Value) (w w' : va_W) (post : Int32 → Prop) : Prop := ∀ sz : Nat, Met l y ws rm (va_Pc av (xPre D cI cZ cC (xW D w sz))) (va_Qi (fun r (_ : Unit) => post r) (xE D cI cZ cC w w' sz) (va_A w sz)) 0 0 (va_A w sz)
def WrV (l : Launch) (y : MethodName) (ws : List Cond) (rm : Room) (D : va_G) (cI cZ cC : ClassId) (av : List Value) (w w' : va_W) : Prop := ∀ sz : Nat, Met l y ws rm (va_Pc av (xPre D cI cZ cC (xW D w sz))) (va_Qv (fun (_ : Unit) => True) (xE D cI cZ cC w w' sz) (va_A w sz)) 0 0 (va_A w sz)
theorem RdC.of {l : Launch} {y : MethodName} {ws ws' : List Cond} {rm : Room} {D : va_G} {cI cZ cC : ClassId} {av : List Value} {P : Heap → Prop} {post : Int32 → Prop} {cc : ByteArray} {maxL : Nat} {ret : FieldType} (hy : plainName y.cls = true) (hw : ws = Cond.code y cc maxL (some ret) :: ws') (hlen : (lg_sl av).length ≤ maxL)
    (body : ∀ (p : Program) (e : Env) (s : State) (m : MethodId) (args : Array Value) (below : List Frame) (meth : Method) (c : Code) (Q : State → Prop) (ls : Array Slot), p.tables.exec = Jvm.exec → c.code = cc → c.maxLocals = maxL → (∀ w ∈ ws, w.before args s = true) → s.vm.findClass y.cls = some m.cls → va_K D vwCl (tyA cI cZ cC) s → P s.heap →
      (∀ (pc : Nat) (ls : Array Slot) (v : Int32), post v → narrow ret (.int v) = .int v → decode cc pc = .ok (.ireturn, 1) → W p l e rm s m args below meth c s.heap [] 0 0 Q (F0 m pc ls [.int v])) →
      lv_has ls maxL (lv_args 0 av) → W p l e rm s m args below meth c s.heap [] 0 0 Q (F0 m 0 ls [])) : RdC l y ws rm D cI cZ cC av P post := by
  refine Met.ofW (cc := cc) (maxL := maxL) (ret := some ret) hy hw ?_
  intro p e s m args below meth c s₁ B hml hv
  obtain ⟨rfl, hP, hK⟩ := hv
  have hl := lv_entry av (n := maxL) hlen
  rw [lg_entry_eq]
  refine body p e s m _ below meth c _ _ B.exec B.bytes hml (atoms_spec B.pre) (findClass_of_methodNamed B.named) hK hP (fun pc ls v hv hn hdg => ?_) hl
  exact W.zret B.exec B.bytes B.returns hn (fun t ht hW => ⟨v, rfl, hv, ht⟩) (fun q h => by cases h) hdg
theorem RdL.of {l : Launch} {y : MethodName} {ws ws' : List Cond} {rm : Room} {D : va_G} {cI cZ cC : ClassId} {av : List Value} {P : Heap → Prop} {post : Int64 → Prop} {cc : ByteArray} {maxL : Nat} (hy : plainName y.cls = true) (hw : ws = Cond.code y cc maxL (some .long) :: ws') (hlen : (lg_sl av).length ≤ maxL)
    (body : ∀ (p : Program) (e : Env) (s : State) (m : MethodId) (args : Array Value) (below : List Frame) (meth : Method) (c : Code) (Q : State → Prop) (ls : Array Slot), p.tables.exec = Jvm.exec → c.code = cc → c.maxLocals = maxL → (∀ w ∈ ws, w.before args s = true) → s.vm.findClass y.cls = some m.cls → va_K D vwCl (tyA cI cZ cC) s → P s.heap →
      (∀ (pc : Nat) (ls : Array Slot) (v : Int64), post v → decode cc pc = .ok (.lreturn, 1) → W p l e rm s m args below meth c s.heap [] 0 0 Q (F0 m pc ls [.long v])) →
      lv_has ls maxL (lv_args 0 av) → W p l e rm s m args below meth c s.heap [] 0 0 Q (F0 m 0 ls [])) : RdL l y ws rm D cI cZ cC av P post := by
  refine Met.ofW (cc := cc) (maxL := maxL) (ret := some .long) hy hw ?_
  intro p e s m args below meth c s₁ B hml hv
  obtain ⟨rfl, hP, hK⟩ := hv
  have hl := lv_entry av (n := maxL) hlen
  rw [lg_entry_eq]
  refine body p e s m _ below meth c _ _ B.exec B.bytes hml (atoms_spec B.pre) (findClass_of_methodNamed B.named) hK hP (fun pc ls v hv hdg => ?_) hl
  exact W.lret B.exec B.bytes B.returns (fun t ht hW => ⟨v, rfl, hv, ht⟩) (fun q h => by cases h) hdg
theorem RdQ.of {l : Launch} {y : MethodName} {ws ws' : List Cond} {rm : Room} {D : va_G} {cI cZ cC : ClassId} {av : List Value} {P : Heap → Prop} {post : Option Nat → Prop} {cc : ByteArray} {maxL : Nat} {rt : FieldType} (hy : plainName y.cls = true) (hw : ws = Cond.code y cc maxL (some rt) :: ws') (hrt : (∃ n, rt = .object n) ∨ ∃ t, rt = .array t) (hlen : (lg_sl av).length ≤ maxL)
    (body : ∀ (p : Program) (e : Env) (s : State) (m : MethodId) (args : Array Value) (below : List Frame) (meth : Method) (c : Code) (Q : State → Prop) (ls : Array Slot), p.tables.exec = Jvm.exec → c.code = cc → c.maxLocals = maxL → (∀ w ∈ ws, w.before args s = true) → s.vm.findClass y.cls = some m.cls → va_K D vwCl (tyA cI cZ cC) s → P s.heap →
      (∀ (pc : Nat) (ls : Array Slot) (v : Option Nat), post v → decode cc pc = .ok (.areturn, 1) → W p l e rm s m args below meth c s.heap [] 0 0 Q (F0 m pc ls [va_rf v])) →
      lv_has ls maxL (lv_args 0 av) → W p l e rm s m args below meth c s.heap [] 0 0 Q (F0 m 0 ls [])) : RdQ l y ws rm D cI cZ cC av P post := by
  refine Met.ofW (cc := cc) (maxL := maxL) (ret := some rt) hy hw ?_
  intro p e s m args below meth c s₁ B hml hv
  obtain ⟨rfl, hP, hK⟩ := hv
  have hl := lv_entry av (n := maxL) hlen
  rw [lg_entry_eq]
  refine body p e s m _ below meth c _ _ B.exec B.bytes hml (atoms_spec B.pre) (findClass_of_methodNamed B.named) hK hP (fun pc ls v hv hdg => ?_) hl
  exact W.aret B.exec B.bytes B.returns hrt (va_rf_or v) (fun t ht hW => ⟨v, rfl, hv, ht⟩) (fun q h => by cases h) hdg
theorem WrI.of {l : Launch} {y : MethodName} {ws ws' : List Cond} {rm : Room} {D : va_G} {cI cZ cC : ClassId} {av : List Value} {w w' : va_W} {post : Int32 → Prop} {cc : ByteArray} {maxL : Nat} {ret : FieldType} (hy : plainName y.cls = true) (hw : ws = Cond.code y cc maxL (some ret) :: ws') (hlen : (lg_sl av).length ≤ maxL)
    (body : ∀ (p : Program) (e : Env) (s : State) (m : MethodId) (args : Array Value) (below : List Frame) (meth : Method) (c : Code) (Q : State → Prop) (A : Nat → Prop) (ls : Array Slot), p.tables.exec = Jvm.exec → c.code = cc → c.maxLocals = maxL → (∀ w ∈ ws, w.before args s = true) → s.vm.findClass y.cls = some m.cls → va_K D vwCl (tyA cI cZ cC) s → va_P D vwCl w s.heap → va_D A w → va_S A s.heap s.heap [] → (∀ q : Nat, s.heap.size ≤ q → A q) →
      (∀ (pc : Nat) (ls : Array Slot) (v : Int32) (H : Heap) (locs : List Loc), post v → va_P D vwCl w' H → va_D A w' → va_S A s.heap H locs → narrow ret (.int v) = .int v → decode cc pc = .ok (.ireturn, 1) → W p l e rm s m args below meth c H locs 0 0 Q (F0 m pc ls [.int v])) →
      lv_has ls maxL (lv_args 0 av) → W p l e rm s m args below meth c s.heap [] 0 0 Q (F0 m 0 ls [])) : WrI l y ws rm D cI cZ cC av w w' post := by
  intro sz
  refine Met.ofW (cc := cc) (maxL := maxL) (ret := some ret) hy hw ?_
  intro p e s m args below meth c s₁ B hml hv
  obtain ⟨rfl, ⟨hsz, hP, hD0⟩, hK⟩ := hv
  subst hsz
  have hl := lv_entry av (n := maxL) hlen
  rw [lg_entry_eq]
  refine body p e s m _ below meth c _ (va_A w s.heap.size) _ B.exec B.bytes hml (atoms_spec B.pre) (findClass_of_methodNamed B.named) hK hP hD0.self va_S.rf (fun q h => Or.inr h) (fun pc ls v H locs hv hP' hD' hS' hn hdg => ?_) hl
  exact W.zret B.exec B.bytes B.returns hn (fun t ht hW => ⟨⟨v, (), rfl, hv, by rw [ht]; exact hP', va_K.moved hW.alike hK, hD'⟩, hS'.F ht⟩) hS'.2.2 hdg
theorem WrV.of {l : Launch} {y : MethodName} {ws ws' : List Cond} {rm : Room} {D : va_G} {cI cZ cC : ClassId} {av : List Value} {w w' : va_W} {cc : ByteArray} {maxL : Nat} (hy : plainName y.cls = true) (hw : ws = Cond.code y cc maxL none :: ws') (hlen : (lg_sl av).length ≤ maxL)
    (body : ∀ (p : Program) (e : Env) (s : State) (m : MethodId) (args : Array Value) (below : List Frame) (meth : Method) (c : Code) (Q : State → Prop) (A : Nat → Prop) (ls : Array Slot), p.tables.exec = Jvm.exec → c.code = cc → c.maxLocals = maxL → (∀ w ∈ ws, w.before args s = true) → s.vm.findClass y.cls = some m.cls → va_K D vwCl (tyA cI cZ cC) s → va_P D vwCl w s.heap → va_D A w → va_S A s.heap s.heap [] → (∀ q : Nat, s.heap.size ≤ q → A q) →
      (∀ (pc : Nat) (ls : Array Slot) (H : Heap) (locs : List Loc), va_P D vwCl w' H → va_D A w' → va_S A s.heap H locs → decode cc pc = .ok (.return_, 1) → W p l e rm s m args below meth c H locs 0 0 Q (F0 m pc ls [])) →
      lv_has ls maxL (lv_args 0 av) → W p l e rm s m args below meth c s.heap [] 0 0 Q (F0 m 0 ls [])) : WrV l y ws rm D cI cZ cC av w w' := by
  intro sz
  refine Met.ofW (cc := cc) (maxL := maxL) (ret := none) hy hw ?_
  intro p e s m args below meth c s₁ B hml hv
  obtain ⟨rfl, ⟨hsz, hP, hD0⟩, hK⟩ := hv
  subst hsz
  have hl := lv_entry av (n := maxL) hlen
  rw [lg_entry_eq]
  refine body p e s m _ below meth c _ (va_A w s.heap.size) _ B.exec B.bytes hml (atoms_spec B.pre) (findClass_of_methodNamed B.named) hK hP hD0.self va_S.rf (fun q h => Or.inr h) (fun pc ls H locs hP' hD' hS' hdg => ?_) hl
  exact W.vret B.exec B.bytes B.returns (fun t ht hW => ⟨⟨(), rfl, trivial, by rw [ht]; exact hP', va_K.moved hW.alike hK, hD'⟩, hS'.F ht⟩) hS'.2.2 hdg
/-! worlds: cells set at places -/
def setL : va_W → List (Nat × (Nat × va_E)) → va_W
  | w, [] => w
  | w, x :: r => setL (w.set x.1 x.2) r
theorem setL_len : ∀ (L : List (Nat × (Nat × va_E))) (w : va_W), (setL w L).length = w.length
  | [], w => rfl
  | x :: r, w => by rw [setL, setL_len r]; exact List.length_set
theorem setL_get : ∀ (L : List (Nat × (Nat × va_E))) (w : va_W) (k : Nat) (q : Nat × va_E), (setL w L)[k]? = some q → (w[k]? = some q ∧ ∀ x ∈ L, x.1 ≠ k) ∨ (∃ x ∈ L, x.1 = k ∧ x.2 = q)
  | [], w, k, q, h => Or.inl ⟨h, fun x hx => by cases hx⟩
  | x :: r, w, k, q, h => by
    rcases setL_get r (w.set x.1 x.2) k q h with ⟨h1, h2⟩ | ⟨y, hy, h1, h2⟩
    · by_cases hk : k = x.1
      · subst hk
        have hl : x.1 < w.length := by
          have := (List.getElem?_eq_some_iff.mp h1).1
          rwa [List.length_set] at this
        rw [List.getElem?_set_self hl] at h1
        exact Or.inr ⟨x, List.mem_cons_self, rfl, Option.some.inj h1⟩
      · rw [List.getElem?_set_ne (Ne.symm hk)] at h1
        refine Or.inl ⟨h1, fun y hy => ?_⟩
        rcases List.mem_cons.mp hy with rfl | hy
        · exact Ne.symm hk
        · exact h2 y hy
    · exact Or.inr ⟨y, List.mem_cons_of_mem _ hy, h1, h2⟩
theorem setL_D {A : Nat → Prop} : ∀ (L : List (Nat × (Nat × va_E))) (w : va_W), va_D A w → (∀ x ∈ L, ∃ e, w[x.1]? = some (x.2.1, e)) → va_D A (setL w L)
  | [], w, h, _ => h
  | x :: r, w, h, hx => by
    obtain ⟨e, he⟩ := hx x List.mem_cons_self
    refine setL_D r (w.set x.1 x.2) (va_D.set (e := x.2.2) h he) (fun y hy => ?_)
    obtain ⟨e2, he2⟩ := hx y (List.mem_cons_of_mem _ hy)
    by_cases hk : y.1 = x.1
    · have hl := (List.getElem?_eq_some_iff.mp he).1
      rw [hk, he] at he2
      have e4 := Option.some.inj he2
      have e3 : x.2.1 = y.2.1 := (Prod.mk.inj e4).1
      exact ⟨x.2.2, by rw [hk, List.getElem?_set_self hl, ← e3]⟩
    · exact ⟨e2, by rw [List.getElem?_set_ne (Ne.symm hk)]; exact he2⟩
/-- behind a call over some cells of a world (places and new cells in L): they are set, the others stay -/
theorem join_set {A0 : Nat → Prop} {D : va_G} {cl : List vw_C} {ws wc w1 : va_W} {H H1 : Heap} (hP : va_P D cl ws H) (hD : va_D A0 ws) (L : List (Nat × (Nat × va_E))) (hL : L.map (fun x => ws[x.1]?.map Prod.fst) = L.map (fun x => some x.2.1)) (hwc : wc.map Prod.fst = L.map (fun x => x.2.1)) (hw1 : L.map Prod.snd = w1)
    (hk : ∀ q : Nat, q < H.size → ¬ va_A wc H.size q → H1[q]? = H[q]?) (hP1 : va_P D cl w1 H1) : va_P D cl (setL ws L) H1 ∧ va_D A0 (setL ws L) := by
  have hx : ∀ x ∈ L, ∃ e, ws[x.1]? = some (x.2.1, e) := by
    intro x hx
    have h0 : ws[x.1]?.map Prod.fst = some x.2.1 := by
      have := List.map_inj_left.mp hL x hx
      exact this
    cases h1 : ws[x.1]? with
    | none => rw [h1] at h0; cases h0
    | some q => rw [h1] at h0; exact ⟨q.2, by rw [← Option.some.inj h0]⟩
  refine ⟨fun k q hq => ?_, setL_D L ws hD hx⟩
  rcases setL_get L ws k q hq with ⟨h1, h2⟩ | ⟨x, hxL, -, h2⟩
  · have hlt := (hP k q h1).lt
    refine (hP k q h1).kept (hk q.1 hlt (fun h => ?_))
    rcases h with ⟨j, e, hj⟩ | h
    · have hm : q.1 ∈ wc.map Prod.fst := List.mem_map.mpr ⟨(q.1, e), List.mem_of_getElem? hj, rfl⟩
      rw [hwc] at hm
      obtain ⟨x, hxL, hxe⟩ := List.mem_map.mp hm
      obtain ⟨e2, he2⟩ := hx x hxL
      exact h2 x hxL (hD.1 _ _ _ _ he2 h1 hxe)
    · omega
  · have hm : q ∈ w1 := by rw [← hw1]; exact List.mem_map.mpr ⟨x, hxL, h2⟩
    obtain ⟨j, hj⟩ := List.getElem?_of_mem hm
    exact hP1 j q hj
/-- a part of a world -/
theorem sub_P {D : va_G} {cl : List vw_C} {ws wc : va_W} {H : Heap} (h : va_P D cl ws H) (is : List Nat) (hs : is.map (fun i => ws[i]?) = wc.map some) : va_P D cl wc H := by
  intro k q hk
  have h1 : (is.map (fun i => ws[i]?))[k]? = some (some q) := by rw [hs, List.getElem?_map, hk]; rfl
  rw [List.getElem?_map] at h1
  cases hi : is[k]? with
  | none => rw [hi] at h1; cases h1
  | some i => rw [hi] at h1; exact h i q (Option.some.inj h1)
section XC
variable {p : Program} {l : Launch} {e : Env} {R : Room} {s : State} {m : MethodId} {args : Array Value} {below : List Frame} {meth : Method} {c : Code} {H : Heap} {locs : List Loc} {cells slots : Nat} {Q : State → Prop}
variable {cc bytes : ByteArray} {nL maxL n index pc : Nat} {own C : String} {y : MethodName} {ret : Option FieldType} {ws : List Cond} {rm : Room} {Ts : List Cond} {b : Addr} {As rest st0 : List Value} {ls : Array Slot} {D : va_G} {cI cZ cC : ClassId} {P : Heap → Prop} {A0 : Nat → Prop} {H0 : Heap} {w w' : va_W}
theorem x_rdV {post : Int32 → Prop} (S : CallFix p m c cc nL s args Ts own) (hM : RdC l y ws rm D cI cZ cC (.ref b :: As) P post) (cw : CallW R s args own C index y bytes maxL ret ws rm 0 0 n) (hK : va_K D vwCl (tyA cI cZ cC) s) (hr : ∃ cell : Cell, H[b]? = some cell ∧ cell.vm.isStatics = false ∧ s.vm.findClass C = some cell.cls) (hP : P H) (hn : As.length = n) (hsz : ls.size = nL) (hst : st0 = As.reverse ++ .ref b :: rest) (hW : (rest.map fun v => v.category).sum ≤ 8) (hdg : decode cc pc = .ok (.invokevirtual index, 3)) (hf : cells + 0 ≤ R.cells ∧ slots + 0 ≤ R.slots)
    (kk : ∀ r : Int32, post r → W p l e R s m args below meth c H locs cells slots Q (F0 m (pc + 3) ls (.int r :: rest))) : W p l e R s m args below meth c H locs cells slots Q (F0 m pc ls st0) := by
  subst hst
  exact vp_callSi (va_Run.run (va_runV S hM cw ⟨xPre_blind, hr, fun U hU hW => ⟨rfl, by rw [hU]; exact hP, va_K.moved hW.alike hK⟩⟩ rfl hn hsz rfl (lv_room hW) hdg hf)) kk
theorem x_rdS {post : Int32 → Prop} (S : CallFix p m c cc nL s args Ts own) (hM : RdC l y ws rm D cI cZ cC As P post) (cw : CallB R s args own index y bytes maxL ret ws rm 0 0 n ∧ (Cond.static y).before args s = true) (hK : va_K D vwCl (tyA cI cZ cC) s) (hP : P H) (hn : As.length = n) (hsz : ls.size = nL) (hst : st0 = As.reverse ++ rest) (hW : (rest.map fun v => v.category).sum ≤ 8) (hdg : decode cc pc = .ok (.invokestatic index, 3)) (hf : cells + 0 ≤ R.cells ∧ slots + 0 ≤ R.slots)
    (kk : ∀ r : Int32, post r → W p l e R s m args below meth c H locs cells slots Q (F0 m (pc + 3) ls (.int r :: rest))) : W p l e R s m args below meth c H locs cells slots Q (F0 m pc ls st0) := by
  subst hst
  exact vp_callSi (va_Run.run (va_runS S hM cw ⟨xPre_blind, fun U hU hW => ⟨rfl, by rw [hU]; exact hP, va_K.moved hW.alike hK⟩⟩ rfl hn hsz rfl (lv_room hW) hdg hf)) kk
theorem x_rlV {post : Int64 → Prop} (S : CallFix p m c cc nL s args Ts own) (hM : RdL l y ws rm D cI cZ cC (.ref b :: As) P post) (cw : CallW R s args own C index y bytes maxL ret ws rm 0 0 n) (hK : va_K D vwCl (tyA cI cZ cC) s) (hr : ∃ cell : Cell, H[b]? = some cell ∧ cell.vm.isStatics = false ∧ s.vm.findClass C = some cell.cls) (hP : P H) (hn : As.length = n) (hsz : ls.size = nL) (hst : st0 = As.reverse ++ .ref b :: rest) (hW : (rest.map fun v => v.category).sum ≤ 8) (hdg : decode cc pc = .ok (.invokevirtual index, 3)) (hf : cells + 0 ≤ R.cells ∧ slots + 0 ≤ R.slots)
    (kk : ∀ r : Int64, post r → W p l e R s m args below meth c H locs cells slots Q (F0 m (pc + 3) ls (.long r :: rest))) : W p l e R s m args below meth c H locs cells slots Q (F0 m pc ls st0) := by
  subst hst
  exact vp_callSl (va_Run.run (va_runV S hM cw ⟨xPre_blind, hr, fun U hU hW => ⟨rfl, by rw [hU]; exact hP, va_K.moved hW.alike hK⟩⟩ rfl hn hsz rfl (lv_room hW) hdg hf)) kk
theorem x_rqV {post : Option Nat → Prop} (S : CallFix p m c cc nL s args Ts own) (hM : RdQ l y ws rm D cI cZ cC (.ref b :: As) P post) (cw : CallW R s args own C index y bytes maxL ret ws rm 0 0 n) (hK : va_K D vwCl (tyA cI cZ cC) s) (hr : ∃ cell : Cell, H[b]? = some cell ∧ cell.vm.isStatics = false ∧ s.vm.findClass C = some cell.cls) (hP : P H) (hn : As.length = n) (hsz : ls.size = nL) (hst : st0 = As.reverse ++ .ref b :: rest) (hW : (rest.map fun v => v.category).sum ≤ 8) (hdg : decode cc pc = .ok (.invokevirtual index, 3)) (hf : cells + 0 ≤ R.cells ∧ slots + 0 ≤ R.slots)
    (kk : ∀ r : Option Nat, post r → W p l e R s m args below meth c H locs cells slots Q (F0 m (pc + 3) ls (va_rf r :: rest))) : W p l e R s m args below meth c H locs cells slots Q (F0 m pc ls st0) := by
  subst hst
  exact va_csq (va_Run.run (va_runV S hM cw ⟨xPre_blind, hr, fun U hU hW => ⟨rfl, by rw [hU]; exact hP, va_K.moved hW.alike hK⟩⟩ rfl hn hsz rfl (lv_room hW) hdg hf)) kk
/-- a call of a writer over some cells of the caller's world: their places and new contents in L -/
theorem x_wiV {ww : va_W} {post : Int32 → Prop} (S : CallFix p m c cc nL s args Ts own) (hM : WrI l y ws rm D cI cZ cC (.ref b :: As) w w' post) (cw : CallW R s args own C index y bytes maxL ret ws rm 0 0 n) (hK : va_K D vwCl (tyA cI cZ cC) s) (hr : ∃ cell : Cell, H[b]? = some cell ∧ cell.vm.isStatics = false ∧ s.vm.findClass C = some cell.cls) (hP : va_P D vwCl ww H) (hD : va_D A0 ww) (hS : va_S A0 H0 H locs) (hA : ∀ q : Nat, H0.size ≤ q → A0 q)
    (is : List Nat) (hnd : va_nd is = true) (hs : is.map (fun i => ww[i]?) = w.map some) (hw' : w'.map Prod.fst = w.map Prod.fst) (hn : As.length = n) (hsz : ls.size = nL) (hst : st0 = As.reverse ++ .ref b :: rest) (hW : (rest.map fun v => v.category).sum ≤ 8) (hdg : decode cc pc = .ok (.invokevirtual index, 3)) (hf : cells + 0 ≤ R.cells ∧ slots + 0 ≤ R.slots)
    (kk : ∀ (r : Int32) (H1 : Heap) (locs1 : List Loc), post r → va_P D vwCl (setL ww (is.zip w')) H1 → va_D A0 (setL ww (is.zip w')) → va_S A0 H0 H1 locs1 → W p l e R s m args below meth c H1 locs1 cells slots Q (F0 m (pc + 3) ls (.int r :: rest))) : W p l e R s m args below meth c H locs cells slots Q (F0 m pc ls st0) := by
  subst hst
  have hF := va_free hD hS hA is hs
  refine va_calli (va_runV S (hM H.size) cw ⟨xPre_blind, hr, fun U hU hW => ⟨rfl, ⟨by rw [hU], by rw [hU]; exact sub_P hP is hs, (hD.sub is hnd hs).weaken (fun _ _ _ _ => trivial)⟩, va_K.moved hW.alike hK⟩⟩ rfl hn hsz rfl (lv_room hW) hdg hf) hS (fun q _ h => hF q h) hF (fun r u t H1 locs1 ht hvm hw hB hz1 hk1 hS1 => ?_)
  obtain ⟨hP1, hK1, hD1⟩ := hB
  rw [ht] at hP1
  have hlen : is.length = w.length := by have := congrArg List.length hs; rwa [List.length_map, List.length_map] at this
  have hlen' : w'.length = w.length := by have := congrArg List.length hw'; rwa [List.length_map, List.length_map] at this
  have hL2 : (is.zip w').map Prod.snd = w' := List.map_snd_zip (by omega)
  have hfst : (is.zip w').map (fun x => x.2.1) = w.map Prod.fst := by
    rw [← hw']
    have : (is.zip w').map (fun x => x.2.1) = ((is.zip w').map Prod.snd).map Prod.fst := by rw [List.map_map]; rfl
    rw [this, hL2]
  have hL : (is.zip w').map (fun x => ww[x.1]?.map Prod.fst) = (is.zip w').map (fun x => some x.2.1) := by
    have e1 : (is.zip w').map (fun x => ww[x.1]?.map Prod.fst) = (is.map (fun i => ww[i]?)).map (Option.map Prod.fst) := by
      rw [List.map_map]
      have : is = (is.zip w').map Prod.fst := (List.map_fst_zip (by omega)).symm
      conv => rhs; rw [this]
      rw [List.map_map]; rfl
    have e2 : (is.zip w').map (fun x => some x.2.1) = ((is.zip w').map (fun x => x.2.1)).map some := by rw [List.map_map]; rfl
    rw [e1, hs, e2, hfst, List.map_map, List.map_map]; rfl
  obtain ⟨hP2, hD2⟩ := join_set hP hD (is.zip w') hL (hfst ▸ rfl) hL2 hk1 hP1
  exact kk r H1 locs1 hw hP2 hD2 hS1
theorem x_wvV {ww : va_W} (S : CallFix p m c cc nL s args Ts own) (hM : WrV l y ws rm D cI cZ cC (.ref b :: As) w w') (cw : CallW R s args own C index y bytes maxL ret ws rm 0 0 n) (hK : va_K D vwCl (tyA cI cZ cC) s) (hr : ∃ cell : Cell, H[b]? = some cell ∧ cell.vm.isStatics = false ∧ s.vm.findClass C = some cell.cls) (hP : va_P D vwCl ww H) (hD : va_D A0 ww) (hS : va_S A0 H0 H locs) (hA : ∀ q : Nat, H0.size ≤ q → A0 q)
    (is : List Nat) (hnd : va_nd is = true) (hs : is.map (fun i => ww[i]?) = w.map some) (hw' : w'.map Prod.fst = w.map Prod.fst) (hn : As.length = n) (hsz : ls.size = nL) (hst : st0 = As.reverse ++ .ref b :: rest) (hW : (rest.map fun v => v.category).sum ≤ 8) (hdg : decode cc pc = .ok (.invokevirtual index, 3)) (hf : cells + 0 ≤ R.cells ∧ slots + 0 ≤ R.slots)
    (kk : ∀ (H1 : Heap) (locs1 : List Loc), va_P D vwCl (setL ww (is.zip w')) H1 → va_D A0 (setL ww (is.zip w')) → va_S A0 H0 H1 locs1 → W p l e R s m args below meth c H1 locs1 cells slots Q (F0 m (pc + 3) ls rest)) : W p l e R s m args below meth c H locs cells slots Q (F0 m pc ls st0) := by
  subst hst
  have hF := va_free hD hS hA is hs
  refine va_callv (va_runV S (hM H.size) cw ⟨xPre_blind, hr, fun U hU hW => ⟨rfl, ⟨by rw [hU], by rw [hU]; exact sub_P hP is hs, (hD.sub is hnd hs).weaken (fun _ _ _ _ => trivial)⟩, va_K.moved hW.alike hK⟩⟩ rfl hn hsz rfl (lv_room hW) hdg hf) hS (fun q _ h => hF q h) hF (fun u t H1 locs1 ht hvm hw hB hz1 hk1 hS1 => ?_)
  obtain ⟨hP1, hK1, hD1⟩ := hB
  rw [ht] at hP1
  have hlen : is.length = w.length := by have := congrArg List.length hs; rwa [List.length_map, List.length_map] at this
  have hlen' : w'.length = w.length := by have := congrArg List.length hw'; rwa [List.length_map, List.length_map] at this
  have hL2 : (is.zip w').map Prod.snd = w' := List.map_snd_zip (by omega)
  have hfst : (is.zip w').map (fun x => x.2.1) = w.map Prod.fst := by
    rw [← hw']
    have : (is.zip w').map (fun x => x.2.1) = ((is.zip w').map Prod.snd).map Prod.fst := by rw [List.map_map]; rfl
    rw [this, hL2]
  have hL : (is.zip w').map (fun x => ww[x.1]?.map Prod.fst) = (is.zip w').map (fun x => some x.2.1) := by
    have e1 : (is.zip w').map (fun x => ww[x.1]?.map Prod.fst) = (is.map (fun i => ww[i]?)).map (Option.map Prod.fst) := by
      rw [List.map_map]
      have : is = (is.zip w').map Prod.fst := (List.map_fst_zip (by omega)).symm
      conv => rhs; rw [this]
      rw [List.map_map]; rfl
    have e2 : (is.zip w').map (fun x => some x.2.1) = ((is.zip w').map (fun x => x.2.1)).map some := by rw [List.map_map]; rfl
    rw [e1, hs, e2, hfst, List.map_map, List.map_map]; rfl
  obtain ⟨hP2, hD2⟩ := join_set hP hD (is.zip w') hL (hfst ▸ rfl) hL2 hk1 hP1
  exact kk H1 locs1 hP2 hD2 hS1
/-- the same over the caller's whole world -/
theorem x_wiW {post : Int32 → Prop} (S : CallFix p m c cc nL s args Ts own) (hM : WrI l y ws rm D cI cZ cC (.ref b :: As) w w' post) (cw : CallW R s args own C index y bytes maxL ret ws rm 0 0 n) (hK : va_K D vwCl (tyA cI cZ cC) s) (hr : ∃ cell : Cell, H[b]? = some cell ∧ cell.vm.isStatics = false ∧ s.vm.findClass C = some cell.cls) (hP : va_P D vwCl w H) (hD : va_D A0 w) (hS : va_S A0 H0 H locs) (hA : ∀ q : Nat, H0.size ≤ q → A0 q)
    (hn : As.length = n) (hsz : ls.size = nL) (hst : st0 = As.reverse ++ .ref b :: rest) (hW : (rest.map fun v => v.category).sum ≤ 8) (hdg : decode cc pc = .ok (.invokevirtual index, 3)) (hf : cells + 0 ≤ R.cells ∧ slots + 0 ≤ R.slots)
    (kk : ∀ (r : Int32) (H1 : Heap) (locs1 : List Loc), post r → va_P D vwCl w' H1 → va_D A0 w' → va_S A0 H0 H1 locs1 → W p l e R s m args below meth c H1 locs1 cells slots Q (F0 m (pc + 3) ls (.int r :: rest))) : W p l e R s m args below meth c H locs cells slots Q (F0 m pc ls st0) := by
  subst hst
  have hF : ∀ q, va_A w H.size q → A0 q := fun q h => by
    rcases h with ⟨k, e, h⟩ | h
    · exact hD.2 k _ h
    · exact hA q (Nat.le_trans hS.1 h)
  refine va_calli (va_runV S (hM H.size) cw ⟨xPre_blind, hr, fun U hU hW => ⟨rfl, ⟨by rw [hU], by rw [hU]; exact hP, hD.weaken (fun _ _ _ _ => trivial)⟩, va_K.moved hW.alike hK⟩⟩ rfl hn hsz rfl (lv_room hW) hdg hf) hS (fun q _ h => hF q h) hF (fun r u t H1 locs1 ht hvm hw hB hz1 hk1 hS1 => ?_)
  obtain ⟨hP1, hK1, hD1⟩ := hB
  rw [ht] at hP1
  exact kk r H1 locs1 hw hP1 (hD1.weaken (fun k q _ h => hF q.1 h)) hS1
theorem x_wvW (S : CallFix p m c cc nL s args Ts own) (hM : WrV l y ws rm D cI cZ cC (.ref b :: As) w w') (cw : CallW R s args own C index y bytes maxL ret ws rm 0 0 n) (hK : va_K D vwCl (tyA cI cZ cC) s) (hr : ∃ cell : Cell, H[b]? = some cell ∧ cell.vm.isStatics = false ∧ s.vm.findClass C = some cell.cls) (hP : va_P D vwCl w H) (hD : va_D A0 w) (hS : va_S A0 H0 H locs) (hA : ∀ q : Nat, H0.size ≤ q → A0 q)
    (hn : As.length = n) (hsz : ls.size = nL) (hst : st0 = As.reverse ++ .ref b :: rest) (hW : (rest.map fun v => v.category).sum ≤ 8) (hdg : decode cc pc = .ok (.invokevirtual index, 3)) (hf : cells + 0 ≤ R.cells ∧ slots + 0 ≤ R.slots)
    (kk : ∀ (H1 : Heap) (locs1 : List Loc), va_P D vwCl w' H1 → va_D A0 w' → va_S A0 H0 H1 locs1 → W p l e R s m args below meth c H1 locs1 cells slots Q (F0 m (pc + 3) ls rest)) : W p l e R s m args below meth c H locs cells slots Q (F0 m pc ls st0) := by
  subst hst
  have hF : ∀ q, va_A w H.size q → A0 q := fun q h => by
    rcases h with ⟨k, e, h⟩ | h
    · exact hD.2 k _ h
    · exact hA q (Nat.le_trans hS.1 h)
  refine va_callv (va_runV S (hM H.size) cw ⟨xPre_blind, hr, fun U hU hW => ⟨rfl, ⟨by rw [hU], by rw [hU]; exact hP, hD.weaken (fun _ _ _ _ => trivial)⟩, va_K.moved hW.alike hK⟩⟩ rfl hn hsz rfl (lv_room hW) hdg hf) hS (fun q _ h => hF q h) hF (fun u t H1 locs1 ht hvm hw hB hz1 hk1 hS1 => ?_)
  obtain ⟨hP1, hK1, hD1⟩ := hB
  rw [ht] at hP1
  exact kk H1 locs1 hP1 (hD1.weaken (fun k q _ h => hF q.1 h)) hS1
end XC
section XR
variable {p : Program} {l : Launch} {e : Env} {R : Room} {s : State} {m : MethodId} {args : Array Value} {below : List Frame} {meth : Method} {c : Code} {H : Heap} {locs : List Loc} {cells slots : Nat} {Q : State → Prop}
variable {cc : ByteArray} {pc : Nat} {ls : Array Slot} {rest : List Value} {D : va_G} {cI cZ cC : ClassId} {A : Nat → Prop} {a : Nat} {ws : va_W} {H0 : Heap}
/-- array reads and writes at an index that is a small number -/
theorem x_iald (hx : p.tables.exec = Jvm.exec) (hb : c.code = cc) (hK : va_K D vwCl (tyA cI cZ cC) s) (hP : va_P D vwCl ws H) (q0 : Nat) {n k : Nat} {f : Nat → Int32} (ha : ws[q0]? = some (a, .inl (cI, n, .inl f))) (hk : k < n) (hn : n < 2 ^ 31) (hdg : decode cc pc = .ok (.iaload, 1))
    (kk : W p l e R s m args below meth c H locs cells slots Q (F0 m (pc + 1) ls (.int (f k) :: rest))) : W p l e R s m args below meth c H locs cells slots Q (F0 m pc ls (.int (nI k) :: .ref a :: rest)) := by
  refine va_iald hx hb hK hP q0 0 ha rfl (vp_in_nI hk hn) hdg ?_
  rw [nI_clamp (Nat.lt_trans hk hn)]; exact kk
theorem x_zald (hx : p.tables.exec = Jvm.exec) (hb : c.code = cc) (hK : va_K D vwCl (tyA cI cZ cC) s) (hP : va_P D vwCl ws H) (q0 : Nat) {n k : Nat} {f : Nat → Int32} (ha : ws[q0]? = some (a, .inl (cZ, n, .inl f))) (hk : k < n) (hn : n < 2 ^ 31) (hdg : decode cc pc = .ok (.baload, 1))
    (kk : W p l e R s m args below meth c H locs cells slots Q (F0 m (pc + 1) ls (.int (f k) :: rest))) : W p l e R s m args below meth c H locs cells slots Q (F0 m pc ls (.int (nI k) :: .ref a :: rest)) := by
  refine va_zald hx hb hK hP q0 1 ha rfl (vp_in_nI hk hn) hdg ?_
  rw [nI_clamp (Nat.lt_trans hk hn)]; exact kk
theorem x_aald (hx : p.tables.exec = Jvm.exec) (hb : c.code = cc) (hK : va_K D vwCl (tyA cI cZ cC) s) (hP : va_P D vwCl ws H) (q0 : Nat) {n k : Nat} {f : Nat → Option Nat} (ha : ws[q0]? = some (a, .inl (cC, n, .inr (.inr (.inr (.inr f)))))) (hk : k < n) (hn : n < 2 ^ 31) (hdg : decode cc pc = .ok (.aaload, 1))
    (kk : W p l e R s m args below meth c H locs cells slots Q (F0 m (pc + 1) ls (va_rf (f k) :: rest))) : W p l e R s m args below meth c H locs cells slots Q (F0 m pc ls (.int (nI k) :: .ref a :: rest)) := by
  refine va_aldq (C := "TroubleCodes$Check") hx hb hK hP q0 2 ha rfl (vp_in_nI hk hn) hdg ?_
  rw [nI_clamp (Nat.lt_trans hk hn)]; exact kk
theorem x_iast (hx : p.tables.exec = Jvm.exec) (hb : c.code = cc) (hK : va_K D vwCl (tyA cI cZ cC) s) (hP : va_P D vwCl ws H) (hD : va_D A ws) (hS : va_S A H0 H locs) (q0 : Nat) {n k : Nat} {f : Nat → Int32} (ha : ws[q0]? = some (a, .inl (cI, n, .inl f))) {x : Int32} (hk : k < n) (hn : n < 2 ^ 31) (hdg : decode cc pc = .ok (.iastore, 1))
    (kk : ∀ (H1 : Heap) (locs1 : List Loc), va_P D vwCl (ws.set q0 (a, .inl (cI, n, .inl (upd f k x)))) H1 → va_D A (ws.set q0 (a, .inl (cI, n, .inl (upd f k x)))) → va_S A H0 H1 locs1 → W p l e R s m args below meth c H1 locs1 cells slots Q (F0 m (pc + 1) ls rest)) : W p l e R s m args below meth c H locs cells slots Q (F0 m pc ls (.int x :: .int (nI k) :: .ref a :: rest)) := by
  refine va_iast hx hb hK hP hD hS q0 0 ha rfl (vp_in_nI hk hn) hdg ?_
  rw [nI_clamp (Nat.lt_trans hk hn)]; exact kk
theorem x_zast (hx : p.tables.exec = Jvm.exec) (hb : c.code = cc) (hK : va_K D vwCl (tyA cI cZ cC) s) (hP : va_P D vwCl ws H) (hD : va_D A ws) (hS : va_S A H0 H locs) (q0 : Nat) {n k : Nat} {f : Nat → Int32} (ha : ws[q0]? = some (a, .inl (cZ, n, .inl f))) {x : Int32} (h01 : x = 0 ∨ x = 1) (hk : k < n) (hn : n < 2 ^ 31) (hdg : decode cc pc = .ok (.bastore, 1))
    (kk : ∀ (H1 : Heap) (locs1 : List Loc), va_P D vwCl (ws.set q0 (a, .inl (cZ, n, .inl (upd f k x)))) H1 → va_D A (ws.set q0 (a, .inl (cZ, n, .inl (upd f k x)))) → va_S A H0 H1 locs1 → W p l e R s m args below meth c H1 locs1 cells slots Q (F0 m (pc + 1) ls rest)) : W p l e R s m args below meth c H locs cells slots Q (F0 m pc ls (.int x :: .int (nI k) :: .ref a :: rest)) := by
  refine va_zast hx hb hK hP hD hS q0 1 ha rfl (vp_in_nI hk hn) hdg ?_
  rw [nI_clamp (Nat.lt_trans hk hn), narv1 h01]; exact kk
theorem x_recv {b : Nat} {ci q0 : Nat} {q : vw_C} {fs : List Value} (hK : va_K D vwCl (tyA cI cZ cC) s) (hP : va_P D vwCl ws H) (hc : vwCl[ci]? = some q) (he : ws[q0]? = some (b, .inr (ci, fs))) : ∃ cell : Cell, H[b]? = some cell ∧ cell.vm.isStatics = false ∧ s.vm.findClass q.1 = some cell.cls := va_recv hK hP hc he
end XR

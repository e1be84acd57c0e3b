/-! THE SMALL MACHINE. A heap is a list of cells; the cell i lies at the address o.1 + i of the real heap; every cell that a walk makes is in the list. A reference 'retAddr k' stands for the address o.2 k, a cell outside the list (0: the array MAGIC; 1: the script). -/
abbrev mj_C : Type := vp_A ⊕ (Nat × List Value)
abbrev mj_H : Type := List mj_C
abbrev mj_A : Type := Nat × (Nat → Nat)
/-- kinds and slots; the numbers of int[], long[], double[] -/
abbrev mj_G : Type := va_G × ClassId × ClassId × ClassId
def mj_v (o : mj_A) : Value → Value
  | .ref a => .ref (o.1 + a)
  | .retAddr k => .ref (o.2 k)
  | v => v
def mj_c (G : mj_G) (o : mj_A) : mj_C → va_E
  | .inl (n, .inl f) => .inl (G.2.1, n, .inl f)
  | .inl (n, .inr (.inl f)) => .inl (G.2.2.1, n, .inr (.inl f))
  | .inl (n, .inr (.inr x)) => .inl (G.2.2.2, n, .inr (.inr x))
  | .inr (ci, fs) => .inr (ci, fs.map (mj_v o))
def mj_R (G : mj_G) (o : mj_A) (h : mj_H) (H : Heap) : Prop := H.size = o.1 + h.length ∧ ∀ (i : Nat) (x : mj_C), h[i]? = some x → va_at G.1 mj_cl (o.1 + i, mj_c G o x) H
theorem mj_warm {w : Cond} (hg : mj_gd w = true) {a a' : Array Value} {s U : State} (hW : s.WarmedH U.vm) (h : w.before a s = true) : w.before a' U = true := by
  unfold mj_gd at hg
  rw [Bool.or_eq_true] at hg
  rcases hg with hg | hg
  · exact word_at hW (Or.inl hg) h
  · split at hg
    · exact word_at hW (Or.inr ⟨_, rfl⟩) h
    · exact va_Nw.use rfl (va_Nw.warmF hW (va_Nw.of rfl h))
    · exact va_Nw.use rfl (va_Nw.warmM hW (va_Nw.of rfl h))
    · exact va_Nw.use rfl (va_Nw.warmC hW (va_Nw.of rfl h))
    · exact va_Nw.use rfl (va_Nw.warmD hW (va_Nw.of rfl h))
    · cases hg
def mj_T (U : State) : Prop := ∀ w, mj_in w → ∀ a, w.before a U = true
theorem mj_T.moved {s U : State} (h : mj_T s) (hW : s.WarmedH U.vm) : mj_T U := fun w hw a => mj_warm hw.2 (a := #[]) hW (h w hw #[])
def mj_mg (j : Nat) : Int32 := match j with
  | 0 => 118
  | 1 => 47
  | 2 => 49
  | _ => 1
/-- kinds of exceptions that no IllegalArgumentException's handler takes -/
def mj_ncs : List String := ["java/lang/IllegalStateException", "java/lang/IndexOutOfBoundsException", "java/lang/UnsupportedOperationException"]
def mj_nc (U : State) : Prop := ∀ q ∈ mj_ncs, va_Nc q "java/lang/IllegalArgumentException" U
/-- what lies outside the list: Throwable's two statics, the array MAGIC -/
def mj_O (o : mj_A) (U : State) : Prop := vx_Zq Bundle.tN "UNASSIGNED_STACK" Bundle.steD (fun q => o.1 ≤ q) U U.heap ∧ vx_Zq Bundle.tN "SUPPRESSED_SENTINEL" Bundle.listD (fun q => o.1 ≤ q) U U.heap ∧ va_Z "RasterForge" "MAGIC" "[I" (.ref (o.2 0)) (fun q => o.1 ≤ q) U U.heap ∧ va_X (o.2 0) 4 mj_mg U U.heap ∧ o.2 0 < o.1 ∧ mj_nc U
theorem mj_O.moved {o : mj_A} {s U : State} (h : mj_O o s) (hW : s.WarmedH U.vm) (hh : ∀ q : Nat, q < o.1 → U.heap[q]? = s.heap[q]?) : mj_O o U := by
  obtain ⟨h1, h2, h3, h4, h5, h6⟩ := h
  have hq : ∀ a : Nat, a < s.heap.size → ¬ o.1 ≤ a → U.heap[a]? = s.heap[a]? := fun a _ h9 => hh a (by omega)
  exact ⟨vx_Zq.moved hW.alike (h1.kept hq), vx_Zq.moved hW.alike (h2.kept hq), va_Z.moved hW.alike (h3.kept hq), va_X.moved hW.alike (h4.kept (hh _ h5)), h5, fun q hq9 => va_Nc.moved hW.alike (h6 q hq9)⟩
def mj_K (G : mj_G) (o : mj_A) (U : State) : Prop := va_K G.1 mj_cl [(G.2.1, .int), (G.2.2.1, .long), (G.2.2.2, .double)] U ∧ mj_T U ∧ mj_O o U
/-- frames, words of locals that are left; the script, where the method may read it -/
abbrev mj_D : Type := Nat × Nat × Option (Nat × (Nat → Int32))
/-- the word of its code -/
def mj_hd (M : mj_M) : Cond := match M.2.2.2.2 with
  | [] => .code M.1 M.2.1 M.2.2.1 M.2.2.2.1
  | x :: t => .codeWith M.1 M.2.1 M.2.2.1 M.2.2.2.1 (x :: t)
def mj_F (l : Launch) : Prop := l.stackTraces = false
/-- how a method ends: with a value or none; with an exception at a cell -/
abbrev mj_E : Type := Option Value ⊕ Nat
def mj_oc (o : mj_A) : mj_E → Outcome → Prop
  | .inl v, oc => oc = .returned (v.map (mj_v o))
  | .inr a, oc => oc = .threw (o.1 + a)
/-- behind a method: its end and heap by Q, nothing below o has changed, at most k cells of n slots are new -/
def mj_Q (G : mj_G) (o : mj_A) (Q : mj_E → mj_H → Prop) (k n : Nat) (s : State) (oc : Outcome) (t : State) : Prop :=
  ∃ (r : mj_E) (h : mj_H), Q r h ∧ mj_oc o r oc ∧ mj_R G o h t.heap ∧ (∀ q : Nat, q < o.1 → t.heap[q]? = s.heap[q]?) ∧ s.WarmedH t.vm ∧ ∃ L : List Loc, s.sameButNew ({ t with vm := s.vm } : State) L k n ∧ ∀ q ∈ L, o.1 ≤ q.base
def mj_rm (d : mj_D) (k n : Nat) : Room := { frames := d.1, cells := k, slots := n, locals := d.2.1 }
def mj_P (G : mj_G) (o : mj_A) (As : List Value) (h : mj_H) : Array Value → State → Prop := fun a U => a = (As.map (mj_v o)).toArray ∧ mj_R G o h U.heap ∧ mj_K G o U
/-- a method's contract at one start: As its arguments, h its heap -/
def mj_Met (M : mj_M) (d : mj_D) (k n : Nat) (As : List Value) (h : mj_H) (Q : mj_E → mj_H → Prop) : Prop :=
  ∀ (l : Launch) (G : mj_G) (o : mj_A), mj_F l → MetFree l M.1 (headSpec [mj_hd M] (mj_rm d k n)) (mj_P G o As h) (fun _ _ _ _ _ => True) (fun _ st oc t => mj_Q G o Q k n st oc t)
def mj_X (M : mj_M) (G : mj_G) (o : mj_A) (d : mj_D) (p : Program) (l : Launch) (R : Room) (s : State) (m : MethodId) (meth : Method) (c : Code) : Prop :=
  p.tables.exec = Jvm.exec ∧ c.code = M.2.1 ∧ c.maxLocals = M.2.2.1 ∧ meth.sig.returnType = M.2.2.2.1 ∧ s.vm.findClass M.1.cls = some m.cls ∧ meth.locks = false ∧ meth.name = M.1.name ∧ mj_K G o s ∧ d.1 ≤ R.frames ∧ d.2.1 ≤ R.locals ∧ mj_F l ∧ c.exceptionTable.toList.map (fun x => (x.startPc, x.endPc, x.handlerPc, x.catchType)) = M.2.2.2.2 ∧ ∀ q, d.2.2 = some q → va_X (o.2 1) q.1 q.2 s s.heap ∧ o.2 1 < o.1
def mj_S (G : mj_G) (o : mj_A) (s : State) (h : mj_H) (H : Heap) (locs : List Loc) : Prop := mj_R G o h H ∧ (∀ q : Nat, q < o.1 → H[q]? = s.heap[q]?) ∧ ∀ q ∈ locs, o.1 ≤ q.base
def mj_L (o : mj_A) (nL : Nat) (L : List (Option Value)) (ls : Array Slot) : Prop := ls.size = nL ∧ lv_wf ls ∧ ∀ (i : Nat) (v : Value), L[i]? = some (some v) → ls[i]? = some (.val (mj_v o v))
def mj_Z (G : mj_G) (o : mj_A) (Q : mj_E → mj_H → Prop) (below : List Frame) (s : State) (R : Room) : State → Prop := fun t => ∃ oc, t.status = .running ∧ Ended t below oc ∧ mj_Q G o Q R.cells R.slots s oc t
/-- the method M stands at pc with the locals L, the stack S, the heap h; d frames, kc cells, ks slots are left: it comes to an end by Q -/
def mj_W (M : mj_M) (Q : mj_E → mj_H → Prop) (d : mj_D) (kc ks pc : Nat) (L : List (Option Value)) (S : List Value) (h : mj_H) : Prop :=
  ∀ (p : Program) (l : Launch) (e : Env) (R : Room) (s : State) (m : MethodId) (args : Array Value) (below : List Frame) (meth : Method) (c : Code) (G : mj_G) (o : mj_A), mj_X M G o d p l R s m meth c →
    ∀ (H : Heap) (locs : List Loc) (cells slots : Nat), mj_S G o s h H locs → cells + kc ≤ R.cells → slots + ks ≤ R.slots → ∀ ls : Array Slot, mj_L o M.2.2.1 L ls →
      W p l e R s m args below meth c H locs cells slots (mj_Z G o Q below s R) (F0 m pc ls (S.map (mj_v o)))
theorem mj_mono {p : Program} {l : Launch} {e : Env} {R : Room} {s : State} {m : MethodId} {args : Array Value} {below : List Frame} {meth : Method} {c : Code} {H : Heap} {locs : List Loc} {cells slots : Nat} {Q Q' : State → Prop} {g : JFrame} (hQ : ∀ t, Q t → Q' t) (k : W p l e R s m args below meth c H locs cells slots Q g) : W p l e R s m args below meth c H locs cells slots Q' g := by
  intro T hT X
  obtain ⟨t, a, b⟩ := k T hT X
  exact ⟨t, a, hQ t b⟩
theorem mj_R.get {G : mj_G} {o : mj_A} {h : mj_H} {H : Heap} (r : mj_R G o h H) {a : Nat} {x : mj_C} (hx : h[a]? = some x) : va_at G.1 mj_cl (o.1 + a, mj_c G o x) H := r.2 a x hx
theorem mj_R.set {G : mj_G} {o : mj_A} {h : mj_H} {H H1 : Heap} (r : mj_R G o h H) {a : Nat} {x y : mj_C} (hx : h[a]? = some x) (z : H1.size = H.size) (oq : ∀ q : Nat, q ≠ o.1 + a → H1[q]? = H[q]?) (hy : va_at G.1 mj_cl (o.1 + a, mj_c G o y) H1) : mj_R G o (h.set a y) H1 := by
  have hl : a < h.length := (List.getElem?_eq_some_iff.mp hx).1
  refine ⟨by rw [z, r.1, List.length_set], fun i w hw => ?_⟩
  by_cases hi : i = a
  · subst hi
    rw [List.getElem?_set_self hl] at hw
    cases hw
    exact hy
  · rw [List.getElem?_set_ne (fun q => hi q.symm)] at hw
    exact (r.2 i w hw).kept (oq (o.1 + i) (by omega))
theorem mj_R.push {G : mj_G} {o : mj_A} {h : mj_H} {H H1 : Heap} (r : mj_R G o h H) {y : mj_C} (z : H1.size = H.size + 1) (oq : ∀ q : Nat, q < H.size → H1[q]? = H[q]?) (hy : va_at G.1 mj_cl (o.1 + h.length, mj_c G o y) H1) : mj_R G o (h ++ [y]) H1 := by
  refine ⟨by rw [z, r.1, List.length_append]; rfl, fun i w hw => ?_⟩
  by_cases hi : i < h.length
  · rw [List.getElem?_append_left hi] at hw
    exact (r.2 i w hw).kept (oq (o.1 + i) (by rw [r.1]; omega))
  · rw [List.getElem?_append_right (by omega)] at hw
    have hz : i - h.length < 1 := (List.getElem?_eq_some_iff.mp hw).1
    have e1 : i = h.length := by omega
    subst e1
    rw [Nat.sub_self] at hw
    cases hw
    exact hy
theorem mj_S.set {G : mj_G} {o : mj_A} {s : State} {h : mj_H} {H H1 : Heap} {locs : List Loc} (r : mj_S G o s h H locs) {a k : Nat} {x y : mj_C} (hx : h[a]? = some x) (z : H1.size = H.size) (oq : ∀ q : Nat, q ≠ o.1 + a → H1[q]? = H[q]?) (hy : va_at G.1 mj_cl (o.1 + a, mj_c G o y) H1) : mj_S G o s (h.set a y) H1 (locs ++ [⟨o.1 + a, k⟩]) := by
  refine ⟨r.1.set hx z oq hy, fun q hq => (oq q (by omega)).trans (r.2.1 q hq), fun q hq => ?_⟩
  rcases List.mem_append.mp hq with h1 | h1
  · exact r.2.2 q h1
  · rw [List.mem_singleton.mp h1]
    exact Nat.le_add_right o.1 a
theorem mj_S.push {G : mj_G} {o : mj_A} {s : State} {h : mj_H} {H H1 : Heap} {locs : List Loc} (r : mj_S G o s h H locs) {y : mj_C} (z : H1.size = H.size + 1) (oq : ∀ q : Nat, q < H.size → H1[q]? = H[q]?) (hy : va_at G.1 mj_cl (o.1 + h.length, mj_c G o y) H1) : mj_S G o s (h ++ [y]) H1 locs := by
  refine ⟨r.1.push z oq hy, fun q hq => ?_, r.2.2⟩
  rw [oq q (by rw [r.1.1]; omega)]
  exact r.2.1 q hq
theorem mj_L.at {o : mj_A} {nL : Nat} {L : List (Option Value)} {ls : Array Slot} (h : mj_L o nL L ls) {i : Nat} {v : Value} (hi : L[i]? = some (some v)) : ls[i]? = some (.val (mj_v o v)) := h.2.2 i v hi
theorem mj_cat (o : mj_A) (v : Value) : (mj_v o v).category = v.category := by cases v <;> rfl
/-- the locals behind a store of one slot; of two -/
def mj_s1 (L : List (Option Value)) (i : Nat) (v : Value) : List (Option Value) := L.set i (some v)
def mj_s2 (L : List (Option Value)) (i : Nat) (v : Value) : List (Option Value) := (L.set i (some v)).set (i + 1) none
/-- no value of two slots ends at i -/
def mj_n2 (L : List (Option Value)) (i : Nat) : Bool := match i with
  | 0 => true
  | j + 1 => match L[j]? with
    | some (some v) => v.category == 1
    | _ => true
def mj_asc (o : mj_A) (L : List (Option Value)) : List (Nat × Value) := L.zipIdx.filterMap (fun q => q.1.map (fun v => (q.2, mj_v o v)))
theorem mj_asc_mem {o : mj_A} {L : List (Option Value)} {q : Nat × Value} : q ∈ mj_asc o L ↔ ∃ v, L[q.1]? = some (some v) ∧ q.2 = mj_v o v := by
  unfold mj_asc
  rw [List.mem_filterMap]
  constructor
  · rintro ⟨⟨x, i⟩, h1, h2⟩
    rw [List.mem_zipIdx_iff_getElem?] at h1
    cases x with
    | none => cases h2
    | some v =>
      simp only [Option.map_some, Option.some.injEq] at h2
      subst h2
      exact ⟨v, h1, rfl⟩
  · rintro ⟨v, h1, h2⟩
    refine ⟨(some v, q.1), List.mem_zipIdx_iff_getElem?.mpr h1, ?_⟩
    simp only [Option.map_some, Option.some.injEq]
    rw [← h2]
theorem mj_L.has {o : mj_A} {nL : Nat} {L : List (Option Value)} {ls : Array Slot} (h : mj_L o nL L ls) : lv_has ls nL (mj_asc o L) := by
  refine ⟨h.1, h.2.1, fun q hq => ?_⟩
  obtain ⟨v, h1, h2⟩ := mj_asc_mem.mp hq
  rw [h2]
  exact h.2.2 q.1 v h1
theorem mj_L.of1 {o : mj_A} {nL : Nat} {L : List (Option Value)} {ls : Array Slot} {i : Nat} {v : Value} (hn : mj_n2 L i = true) (h : lv_has ls nL ((i, mj_v o v) :: (mj_asc o L).filter (fun q => !(q.1 == i) && !(q.1 + 1 == i && q.2.category == 2)))) : mj_L o nL (mj_s1 L i v) ls := by
  refine ⟨h.1, h.2.1, fun j w hj => ?_⟩
  unfold mj_s1 at hj
  by_cases hji : j = i
  · subst hji
    have hl : j < (L.set j (some v)).length := (List.getElem?_eq_some_iff.mp hj).1
    rw [List.length_set] at hl
    rw [List.getElem?_set_self hl] at hj
    cases hj
    exact h.2.2 (j, mj_v o v) List.mem_cons_self
  · rw [List.getElem?_set_ne (fun q => hji q.symm)] at hj
    refine h.2.2 (j, mj_v o w) (List.mem_cons_of_mem _ (List.mem_filter.mpr ⟨mj_asc_mem.mpr ⟨w, hj, rfl⟩, ?_⟩))
    simp only [Bool.and_eq_true, Bool.not_eq_true', beq_eq_false_iff_ne, ne_eq, Bool.and_eq_false_iff]
    refine ⟨hji, ?_⟩
    by_cases e1 : j + 1 = i
    · right
      subst e1
      simp only [mj_n2, hj] at hn
      rw [mj_cat]
      intro q
      rw [q] at hn
      cases hn
    · left
      exact e1
theorem mj_L.of2 {o : mj_A} {nL : Nat} {L : List (Option Value)} {ls : Array Slot} {i : Nat} {v : Value} (hn : mj_n2 L i = true) (h : lv_has ls nL ((i, mj_v o v) :: (mj_asc o L).filter (fun q => !(q.1 == i) && (!(q.1 == i + 1) && !(q.1 + 1 == i && q.2.category == 2))))) : mj_L o nL (mj_s2 L i v) ls := by
  refine ⟨h.1, h.2.1, fun j w hj => ?_⟩
  unfold mj_s2 at hj
  by_cases hj1 : j = i + 1
  · subst hj1
    have hl : i + 1 < ((L.set i (some v)).set (i + 1) none).length := (List.getElem?_eq_some_iff.mp hj).1
    rw [List.length_set] at hl
    rw [List.getElem?_set_self hl] at hj
    cases hj
  · rw [List.getElem?_set_ne (fun q => hj1 q.symm)] at hj
    by_cases hji : j = i
    · subst hji
      have hl : j < (L.set j (some v)).length := (List.getElem?_eq_some_iff.mp hj).1
      rw [List.length_set] at hl
      rw [List.getElem?_set_self hl] at hj
      cases hj
      exact h.2.2 (j, mj_v o v) List.mem_cons_self
    · rw [List.getElem?_set_ne (fun q => hji q.symm)] at hj
      refine h.2.2 (j, mj_v o w) (List.mem_cons_of_mem _ (List.mem_filter.mpr ⟨mj_asc_mem.mpr ⟨w, hj, rfl⟩, ?_⟩))
      simp only [Bool.and_eq_true, Bool.not_eq_true', beq_eq_false_iff_ne, ne_eq, Bool.and_eq_false_iff]
      refine ⟨hji, hj1, ?_⟩
      by_cases e1 : j + 1 = i
      · right
        subst e1
        simp only [mj_n2, hj] at hn
        rw [mj_cat]
        intro q
        rw [q] at hn
        cases hn
      · left
        exact e1
section MJR
variable {M : mj_M} {Q : mj_E → mj_H → Prop} {d : mj_D} {kc ks pc : Nat} {L : List (Option Value)} {S : List Value} {h : mj_H}
theorem mj_iconst {n : Int} {v : Int32} (hdg : decode M.2.1 pc = .ok (.iconst n, 1)) (hv : Int32.ofInt n = v) (k : mj_W M Q d kc ks (pc + 1) L (.int v :: S) h) : mj_W M Q d kc ks pc L (S) h := by
  intro p l e R s m args below meth c G o X H locs cells slots hS hk1 hk2 ls hl
  exact lv_iconst X.1 X.2.1 hdg hv (k p l e R s m args below meth c G o X H locs cells slots hS hk1 hk2 ls hl)
theorem mj_bipush {n : Int} {v : Int32} (hdg : decode M.2.1 pc = .ok (.bipush n, 2)) (hv : (Int8.ofInt n).toInt32 = v) (k : mj_W M Q d kc ks (pc + 2) L (.int v :: S) h) : mj_W M Q d kc ks pc L (S) h := by
  intro p l e R s m args below meth c G o X H locs cells slots hS hk1 hk2 ls hl
  exact lv_bipush X.1 X.2.1 hdg hv (k p l e R s m args below meth c G o X H locs cells slots hS hk1 hk2 ls hl)
theorem mj_sipush {n : Int} {v : Int32} (hdg : decode M.2.1 pc = .ok (.sipush n, 3)) (hv : (Int16.ofInt n).toInt32 = v) (k : mj_W M Q d kc ks (pc + 3) L (.int v :: S) h) : mj_W M Q d kc ks pc L (S) h := by
  intro p l e R s m args below meth c G o X H locs cells slots hS hk1 hk2 ls hl
  exact lv_sipush X.1 X.2.1 hdg hv (k p l e R s m args below meth c G o X H locs cells slots hS hk1 hk2 ls hl)
theorem mj_lconst {n : Fin 2} {v : Int64} (hdg : decode M.2.1 pc = .ok (.lconst n, 1)) (hv : Int64.ofNat (n : Nat) = v) (k : mj_W M Q d kc ks (pc + 1) L (.long v :: S) h) : mj_W M Q d kc ks pc L (S) h := by
  intro p l e R s m args below meth c G o X H locs cells slots hS hk1 hk2 ls hl
  exact lv_lconst X.1 X.2.1 hdg hv (k p l e R s m args below meth c G o X H locs cells slots hS hk1 hk2 ls hl)
theorem mj_iadd {x y : Int32} (hdg : decode M.2.1 pc = .ok (.iadd, 1))  (k : mj_W M Q d kc ks (pc + 1) L (.int (x + y) :: S) h) : mj_W M Q d kc ks pc L (.int y :: .int x :: S) h := by
  intro p l e R s m args below meth c G o X H locs cells slots hS hk1 hk2 ls hl
  exact lv_iadd X.1 X.2.1 hdg (k p l e R s m args below meth c G o X H locs cells slots hS hk1 hk2 ls hl)
theorem mj_isub {x y : Int32} (hdg : decode M.2.1 pc = .ok (.isub, 1))  (k : mj_W M Q d kc ks (pc + 1) L (.int (x - y) :: S) h) : mj_W M Q d kc ks pc L (.int y :: .int x :: S) h := by
  intro p l e R s m args below meth c G o X H locs cells slots hS hk1 hk2 ls hl
  exact lv_isub X.1 X.2.1 hdg (k p l e R s m args below meth c G o X H locs cells slots hS hk1 hk2 ls hl)
theorem mj_imul {x y : Int32} (hdg : decode M.2.1 pc = .ok (.imul, 1))  (k : mj_W M Q d kc ks (pc + 1) L (.int (x * y) :: S) h) : mj_W M Q d kc ks pc L (.int y :: .int x :: S) h := by
  intro p l e R s m args below meth c G o X H locs cells slots hS hk1 hk2 ls hl
  exact lv_imul X.1 X.2.1 hdg (k p l e R s m args below meth c G o X H locs cells slots hS hk1 hk2 ls hl)
theorem mj_iand {x y : Int32} (hdg : decode M.2.1 pc = .ok (.iand, 1))  (k : mj_W M Q d kc ks (pc + 1) L (.int (x &&& y) :: S) h) : mj_W M Q d kc ks pc L (.int y :: .int x :: S) h := by
  intro p l e R s m args below meth c G o X H locs cells slots hS hk1 hk2 ls hl
  exact lv_iand X.1 X.2.1 hdg (k p l e R s m args below meth c G o X H locs cells slots hS hk1 hk2 ls hl)
theorem mj_ior {x y : Int32} (hdg : decode M.2.1 pc = .ok (.ior, 1))  (k : mj_W M Q d kc ks (pc + 1) L (.int (x ||| y) :: S) h) : mj_W M Q d kc ks pc L (.int y :: .int x :: S) h := by
  intro p l e R s m args below meth c G o X H locs cells slots hS hk1 hk2 ls hl
  exact lv_ior X.1 X.2.1 hdg (k p l e R s m args below meth c G o X H locs cells slots hS hk1 hk2 ls hl)
theorem mj_ixor {x y : Int32} (hdg : decode M.2.1 pc = .ok (.ixor, 1))  (k : mj_W M Q d kc ks (pc + 1) L (.int (x ^^^ y) :: S) h) : mj_W M Q d kc ks pc L (.int y :: .int x :: S) h := by
  intro p l e R s m args below meth c G o X H locs cells slots hS hk1 hk2 ls hl
  exact lv_ixor X.1 X.2.1 hdg (k p l e R s m args below meth c G o X H locs cells slots hS hk1 hk2 ls hl)
theorem mj_idiv {x y : Int32} (hdg : decode M.2.1 pc = .ok (.idiv, 1)) (hne : ¬ y = 0) (k : mj_W M Q d kc ks (pc + 1) L (.int (x / y) :: S) h) : mj_W M Q d kc ks pc L (.int y :: .int x :: S) h := by
  intro p l e R s m args below meth c G o X H locs cells slots hS hk1 hk2 ls hl
  exact lv_idiv X.1 X.2.1 hdg hne (k p l e R s m args below meth c G o X H locs cells slots hS hk1 hk2 ls hl)
theorem mj_irem {x y : Int32} (hdg : decode M.2.1 pc = .ok (.irem, 1)) (hne : ¬ y = 0) (k : mj_W M Q d kc ks (pc + 1) L (.int (x - x / y * y) :: S) h) : mj_W M Q d kc ks pc L (.int y :: .int x :: S) h := by
  intro p l e R s m args below meth c G o X H locs cells slots hS hk1 hk2 ls hl
  exact lv_irem X.1 X.2.1 hdg hne (k p l e R s m args below meth c G o X H locs cells slots hS hk1 hk2 ls hl)
theorem mj_ineg {x : Int32} (hdg : decode M.2.1 pc = .ok (.ineg, 1))  (k : mj_W M Q d kc ks (pc + 1) L (.int (-x) :: S) h) : mj_W M Q d kc ks pc L (.int x :: S) h := by
  intro p l e R s m args below meth c G o X H locs cells slots hS hk1 hk2 ls hl
  exact lv_ineg X.1 X.2.1 hdg (k p l e R s m args below meth c G o X H locs cells slots hS hk1 hk2 ls hl)
theorem mj_ladd {x y : Int64} (hdg : decode M.2.1 pc = .ok (.ladd, 1))  (k : mj_W M Q d kc ks (pc + 1) L (.long (x + y) :: S) h) : mj_W M Q d kc ks pc L (.long y :: .long x :: S) h := by
  intro p l e R s m args below meth c G o X H locs cells slots hS hk1 hk2 ls hl
  exact lv_ladd X.1 X.2.1 hdg (k p l e R s m args below meth c G o X H locs cells slots hS hk1 hk2 ls hl)
theorem mj_lsub {x y : Int64} (hdg : decode M.2.1 pc = .ok (.lsub, 1))  (k : mj_W M Q d kc ks (pc + 1) L (.long (x - y) :: S) h) : mj_W M Q d kc ks pc L (.long y :: .long x :: S) h := by
  intro p l e R s m args below meth c G o X H locs cells slots hS hk1 hk2 ls hl
  exact lv_lsub X.1 X.2.1 hdg (k p l e R s m args below meth c G o X H locs cells slots hS hk1 hk2 ls hl)
theorem mj_lmul {x y : Int64} (hdg : decode M.2.1 pc = .ok (.lmul, 1))  (k : mj_W M Q d kc ks (pc + 1) L (.long (x * y) :: S) h) : mj_W M Q d kc ks pc L (.long y :: .long x :: S) h := by
  intro p l e R s m args below meth c G o X H locs cells slots hS hk1 hk2 ls hl
  exact lv_lmul X.1 X.2.1 hdg (k p l e R s m args below meth c G o X H locs cells slots hS hk1 hk2 ls hl)
theorem mj_land {x y : Int64} (hdg : decode M.2.1 pc = .ok (.land, 1))  (k : mj_W M Q d kc ks (pc + 1) L (.long (x &&& y) :: S) h) : mj_W M Q d kc ks pc L (.long y :: .long x :: S) h := by
  intro p l e R s m args below meth c G o X H locs cells slots hS hk1 hk2 ls hl
  exact lv_land X.1 X.2.1 hdg (k p l e R s m args below meth c G o X H locs cells slots hS hk1 hk2 ls hl)
theorem mj_lor {x y : Int64} (hdg : decode M.2.1 pc = .ok (.lor, 1))  (k : mj_W M Q d kc ks (pc + 1) L (.long (x ||| y) :: S) h) : mj_W M Q d kc ks pc L (.long y :: .long x :: S) h := by
  intro p l e R s m args below meth c G o X H locs cells slots hS hk1 hk2 ls hl
  exact lv_lor X.1 X.2.1 hdg (k p l e R s m args below meth c G o X H locs cells slots hS hk1 hk2 ls hl)
theorem mj_lxor {x y : Int64} (hdg : decode M.2.1 pc = .ok (.lxor, 1))  (k : mj_W M Q d kc ks (pc + 1) L (.long (x ^^^ y) :: S) h) : mj_W M Q d kc ks pc L (.long y :: .long x :: S) h := by
  intro p l e R s m args below meth c G o X H locs cells slots hS hk1 hk2 ls hl
  exact lv_lxor X.1 X.2.1 hdg (k p l e R s m args below meth c G o X H locs cells slots hS hk1 hk2 ls hl)
theorem mj_lneg {x : Int64} (hdg : decode M.2.1 pc = .ok (.lneg, 1))  (k : mj_W M Q d kc ks (pc + 1) L (.long (-x) :: S) h) : mj_W M Q d kc ks pc L (.long x :: S) h := by
  intro p l e R s m args below meth c G o X H locs cells slots hS hk1 hk2 ls hl
  exact lv_lneg X.1 X.2.1 hdg (k p l e R s m args below meth c G o X H locs cells slots hS hk1 hk2 ls hl)
theorem mj_ishl {x y : Int32} (hdg : decode M.2.1 pc = .ok (.ishl, 1))  (k : mj_W M Q d kc ks (pc + 1) L (.int (x <<< (y &&& 31)) :: S) h) : mj_W M Q d kc ks pc L (.int y :: .int x :: S) h := by
  intro p l e R s m args below meth c G o X H locs cells slots hS hk1 hk2 ls hl
  exact lv_ishl X.1 X.2.1 hdg (k p l e R s m args below meth c G o X H locs cells slots hS hk1 hk2 ls hl)
theorem mj_ishr {x y : Int32} (hdg : decode M.2.1 pc = .ok (.ishr, 1))  (k : mj_W M Q d kc ks (pc + 1) L (.int (x >>> (y &&& 31)) :: S) h) : mj_W M Q d kc ks pc L (.int y :: .int x :: S) h := by
  intro p l e R s m args below meth c G o X H locs cells slots hS hk1 hk2 ls hl
  exact lv_ishr X.1 X.2.1 hdg (k p l e R s m args below meth c G o X H locs cells slots hS hk1 hk2 ls hl)
theorem mj_i2l {x : Int32} {v : Int64} (hdg : decode M.2.1 pc = .ok (.i2l, 1)) (hv : x.toInt64 = v) (k : mj_W M Q d kc ks (pc + 1) L (.long v :: S) h) : mj_W M Q d kc ks pc L (.int x :: S) h := by
  intro p l e R s m args below meth c G o X H locs cells slots hS hk1 hk2 ls hl
  exact lv_i2l X.1 X.2.1 hdg hv (k p l e R s m args below meth c G o X H locs cells slots hS hk1 hk2 ls hl)
theorem mj_l2i {x : Int64} {v : Int32} (hdg : decode M.2.1 pc = .ok (.l2i, 1)) (hv : x.toInt32 = v) (k : mj_W M Q d kc ks (pc + 1) L (.int v :: S) h) : mj_W M Q d kc ks pc L (.long x :: S) h := by
  intro p l e R s m args below meth c G o X H locs cells slots hS hk1 hk2 ls hl
  exact lv_l2i X.1 X.2.1 hdg hv (k p l e R s m args below meth c G o X H locs cells slots hS hk1 hk2 ls hl)
theorem mj_i2b {x : Int32} {v : Int32} (hdg : decode M.2.1 pc = .ok (.i2b, 1)) (hv : x.toInt8.toInt32 = v) (k : mj_W M Q d kc ks (pc + 1) L (.int v :: S) h) : mj_W M Q d kc ks pc L (.int x :: S) h := by
  intro p l e R s m args below meth c G o X H locs cells slots hS hk1 hk2 ls hl
  exact lv_i2b X.1 X.2.1 hdg hv (k p l e R s m args below meth c G o X H locs cells slots hS hk1 hk2 ls hl)
theorem mj_i2s {x : Int32} {v : Int32} (hdg : decode M.2.1 pc = .ok (.i2s, 1)) (hv : x.toInt16.toInt32 = v) (k : mj_W M Q d kc ks (pc + 1) L (.int v :: S) h) : mj_W M Q d kc ks pc L (.int x :: S) h := by
  intro p l e R s m args below meth c G o X H locs cells slots hS hk1 hk2 ls hl
  exact lv_i2s X.1 X.2.1 hdg hv (k p l e R s m args below meth c G o X H locs cells slots hS hk1 hk2 ls hl)
theorem mj_i2c {x : Int32} {v : Int32} (hdg : decode M.2.1 pc = .ok (.i2c, 1)) (hv : (x.toUInt32 % 65536).toInt32 = v) (k : mj_W M Q d kc ks (pc + 1) L (.int v :: S) h) : mj_W M Q d kc ks pc L (.int x :: S) h := by
  intro p l e R s m args below meth c G o X H locs cells slots hS hk1 hk2 ls hl
  exact lv_i2c X.1 X.2.1 hdg hv (k p l e R s m args below meth c G o X H locs cells slots hS hk1 hk2 ls hl)
theorem mj_iushr {x y v : Int32} (hdg : decode M.2.1 pc = .ok (.iushr, 1)) (hv : (x.toUInt32 >>> (y.toUInt32 &&& Int32.toUInt32 31)).toInt32 = v) (k : mj_W M Q d kc ks (pc + 1) L (.int v :: S) h) : mj_W M Q d kc ks pc L (.int y :: .int x :: S) h := by
  intro p l e R s m args below meth c G o X H locs cells slots hS hk1 hk2 ls hl
  exact lv_iushr X.1 X.2.1 hdg hv (k p l e R s m args below meth c G o X H locs cells slots hS hk1 hk2 ls hl)
theorem mj_lushr {x v : Int64} {y : Int32} (hdg : decode M.2.1 pc = .ok (.lushr, 1)) (hv : (x.toUInt64 >>> (y.toInt64.toUInt64 &&& Int64.toUInt64 63)).toInt64 = v) (k : mj_W M Q d kc ks (pc + 1) L (.long v :: S) h) : mj_W M Q d kc ks pc L (.int y :: .long x :: S) h := by
  intro p l e R s m args below meth c G o X H locs cells slots hS hk1 hk2 ls hl
  exact lv_lushr X.1 X.2.1 hdg hv (k p l e R s m args below meth c G o X H locs cells slots hS hk1 hk2 ls hl)
theorem mj_lshl {x v : Int64} {y : Int32} (hdg : decode M.2.1 pc = .ok (.lshl, 1)) (hv : x <<< (y.toInt64 &&& 63) = v) (k : mj_W M Q d kc ks (pc + 1) L (.long v :: S) h) : mj_W M Q d kc ks pc L (.int y :: .long x :: S) h := by
  intro p l e R s m args below meth c G o X H locs cells slots hS hk1 hk2 ls hl
  exact lv_lshl X.1 X.2.1 hdg hv (k p l e R s m args below meth c G o X H locs cells slots hS hk1 hk2 ls hl)
theorem mj_lshr {x v : Int64} {y : Int32} (hdg : decode M.2.1 pc = .ok (.lshr, 1)) (hv : x >>> (y.toInt64 &&& 63) = v) (k : mj_W M Q d kc ks (pc + 1) L (.long v :: S) h) : mj_W M Q d kc ks pc L (.int y :: .long x :: S) h := by
  intro p l e R s m args below meth c G o X H locs cells slots hS hk1 hk2 ls hl
  exact lv_lshr X.1 X.2.1 hdg hv (k p l e R s m args below meth c G o X H locs cells slots hS hk1 hk2 ls hl)
theorem mj_fconst0  (hdg : decode M.2.1 pc = .ok (.fconst 0, 1))  (k : mj_W M Q d kc ks (pc + 1) L (.float FP.fconst0 :: S) h) : mj_W M Q d kc ks pc L (S) h := by
  intro p l e R s m args below meth c G o X H locs cells slots hS hk1 hk2 ls hl
  exact lv_fconst0 X.1 X.2.1 hdg (k p l e R s m args below meth c G o X H locs cells slots hS hk1 hk2 ls hl)
theorem mj_fconst1  (hdg : decode M.2.1 pc = .ok (.fconst 1, 1))  (k : mj_W M Q d kc ks (pc + 1) L (.float FP.fconst1 :: S) h) : mj_W M Q d kc ks pc L (S) h := by
  intro p l e R s m args below meth c G o X H locs cells slots hS hk1 hk2 ls hl
  exact lv_fconst1 X.1 X.2.1 hdg (k p l e R s m args below meth c G o X H locs cells slots hS hk1 hk2 ls hl)
theorem mj_fconst2  (hdg : decode M.2.1 pc = .ok (.fconst 2, 1))  (k : mj_W M Q d kc ks (pc + 1) L (.float FP.fconst2 :: S) h) : mj_W M Q d kc ks pc L (S) h := by
  intro p l e R s m args below meth c G o X H locs cells slots hS hk1 hk2 ls hl
  exact lv_fconst2 X.1 X.2.1 hdg (k p l e R s m args below meth c G o X H locs cells slots hS hk1 hk2 ls hl)
theorem mj_dconst0  (hdg : decode M.2.1 pc = .ok (.dconst 0, 1))  (k : mj_W M Q d kc ks (pc + 1) L (.double FP.dconst0 :: S) h) : mj_W M Q d kc ks pc L (S) h := by
  intro p l e R s m args below meth c G o X H locs cells slots hS hk1 hk2 ls hl
  exact lv_dconst0 X.1 X.2.1 hdg (k p l e R s m args below meth c G o X H locs cells slots hS hk1 hk2 ls hl)
theorem mj_dconst1  (hdg : decode M.2.1 pc = .ok (.dconst 1, 1))  (k : mj_W M Q d kc ks (pc + 1) L (.double FP.dconst1 :: S) h) : mj_W M Q d kc ks pc L (S) h := by
  intro p l e R s m args below meth c G o X H locs cells slots hS hk1 hk2 ls hl
  exact lv_dconst1 X.1 X.2.1 hdg (k p l e R s m args below meth c G o X H locs cells slots hS hk1 hk2 ls hl)
theorem mj_fadd {x y : UInt32} (hdg : decode M.2.1 pc = .ok (.fadd, 1)) (hne : vf_n32 (FP.fadd x y)) (k : mj_W M Q d kc ks (pc + 1) L (.float (FP.fadd x y) :: S) h) : mj_W M Q d kc ks pc L (.float y :: .float x :: S) h := by
  intro p l e R s m args below meth c G o X H locs cells slots hS hk1 hk2 ls hl
  exact lv_fadd X.1 X.2.1 hdg hne (k p l e R s m args below meth c G o X H locs cells slots hS hk1 hk2 ls hl)
theorem mj_fsub {x y : UInt32} (hdg : decode M.2.1 pc = .ok (.fsub, 1)) (hne : vf_n32 (FP.fsub x y)) (k : mj_W M Q d kc ks (pc + 1) L (.float (FP.fsub x y) :: S) h) : mj_W M Q d kc ks pc L (.float y :: .float x :: S) h := by
  intro p l e R s m args below meth c G o X H locs cells slots hS hk1 hk2 ls hl
  exact lv_fsub X.1 X.2.1 hdg hne (k p l e R s m args below meth c G o X H locs cells slots hS hk1 hk2 ls hl)
theorem mj_fmul {x y : UInt32} (hdg : decode M.2.1 pc = .ok (.fmul, 1)) (hne : vf_n32 (FP.fmul x y)) (k : mj_W M Q d kc ks (pc + 1) L (.float (FP.fmul x y) :: S) h) : mj_W M Q d kc ks pc L (.float y :: .float x :: S) h := by
  intro p l e R s m args below meth c G o X H locs cells slots hS hk1 hk2 ls hl
  exact lv_fmul X.1 X.2.1 hdg hne (k p l e R s m args below meth c G o X H locs cells slots hS hk1 hk2 ls hl)
theorem mj_fdiv {x y : UInt32} (hdg : decode M.2.1 pc = .ok (.fdiv, 1)) (hne : vf_n32 (FP.fdiv x y)) (k : mj_W M Q d kc ks (pc + 1) L (.float (FP.fdiv x y) :: S) h) : mj_W M Q d kc ks pc L (.float y :: .float x :: S) h := by
  intro p l e R s m args below meth c G o X H locs cells slots hS hk1 hk2 ls hl
  exact lv_fdiv X.1 X.2.1 hdg hne (k p l e R s m args below meth c G o X H locs cells slots hS hk1 hk2 ls hl)
theorem mj_fneg {x : UInt32} (hdg : decode M.2.1 pc = .ok (.fneg, 1))  (k : mj_W M Q d kc ks (pc + 1) L (.float (FP.fneg x) :: S) h) : mj_W M Q d kc ks pc L (.float x :: S) h := by
  intro p l e R s m args below meth c G o X H locs cells slots hS hk1 hk2 ls hl
  exact lv_fneg X.1 X.2.1 hdg (k p l e R s m args below meth c G o X H locs cells slots hS hk1 hk2 ls hl)
theorem mj_fcmp {x y : UInt32} {op : CmpOp} (hdg : decode M.2.1 pc = .ok (.fcmp op, 1))  (k : mj_W M Q d kc ks (pc + 1) L (.int (Op.cmpValue (FP.fcmp x y) op) :: S) h) : mj_W M Q d kc ks pc L (.float y :: .float x :: S) h := by
  intro p l e R s m args below meth c G o X H locs cells slots hS hk1 hk2 ls hl
  exact lv_fcmp X.1 X.2.1 hdg (k p l e R s m args below meth c G o X H locs cells slots hS hk1 hk2 ls hl)
theorem mj_i2f {x : Int32} (hdg : decode M.2.1 pc = .ok (.i2f, 1))  (k : mj_W M Q d kc ks (pc + 1) L (.float (FP.i2f x) :: S) h) : mj_W M Q d kc ks pc L (.int x :: S) h := by
  intro p l e R s m args below meth c G o X H locs cells slots hS hk1 hk2 ls hl
  exact lv_i2f X.1 X.2.1 hdg (k p l e R s m args below meth c G o X H locs cells slots hS hk1 hk2 ls hl)
theorem mj_f2i {x : UInt32} (hdg : decode M.2.1 pc = .ok (.f2i, 1))  (k : mj_W M Q d kc ks (pc + 1) L (.int (FP.f2i x) :: S) h) : mj_W M Q d kc ks pc L (.float x :: S) h := by
  intro p l e R s m args below meth c G o X H locs cells slots hS hk1 hk2 ls hl
  exact lv_f2i X.1 X.2.1 hdg (k p l e R s m args below meth c G o X H locs cells slots hS hk1 hk2 ls hl)
theorem mj_dadd {x y : UInt64} (hdg : decode M.2.1 pc = .ok (.dadd, 1)) (hne : vf_n64 (FP.dadd x y)) (k : mj_W M Q d kc ks (pc + 1) L (.double (FP.dadd x y) :: S) h) : mj_W M Q d kc ks pc L (.double y :: .double x :: S) h := by
  intro p l e R s m args below meth c G o X H locs cells slots hS hk1 hk2 ls hl
  exact lv_dadd X.1 X.2.1 hdg hne (k p l e R s m args below meth c G o X H locs cells slots hS hk1 hk2 ls hl)
theorem mj_dsub {x y : UInt64} (hdg : decode M.2.1 pc = .ok (.dsub, 1)) (hne : vf_n64 (FP.dsub x y)) (k : mj_W M Q d kc ks (pc + 1) L (.double (FP.dsub x y) :: S) h) : mj_W M Q d kc ks pc L (.double y :: .double x :: S) h := by
  intro p l e R s m args below meth c G o X H locs cells slots hS hk1 hk2 ls hl
  exact lv_dsub X.1 X.2.1 hdg hne (k p l e R s m args below meth c G o X H locs cells slots hS hk1 hk2 ls hl)
theorem mj_dmul {x y : UInt64} (hdg : decode M.2.1 pc = .ok (.dmul, 1)) (hne : vf_n64 (FP.dmul x y)) (k : mj_W M Q d kc ks (pc + 1) L (.double (FP.dmul x y) :: S) h) : mj_W M Q d kc ks pc L (.double y :: .double x :: S) h := by
  intro p l e R s m args below meth c G o X H locs cells slots hS hk1 hk2 ls hl
  exact lv_dmul X.1 X.2.1 hdg hne (k p l e R s m args below meth c G o X H locs cells slots hS hk1 hk2 ls hl)
theorem mj_ddiv {x y : UInt64} (hdg : decode M.2.1 pc = .ok (.ddiv, 1)) (hne : vf_n64 (FP.ddiv x y)) (k : mj_W M Q d kc ks (pc + 1) L (.double (FP.ddiv x y) :: S) h) : mj_W M Q d kc ks pc L (.double y :: .double x :: S) h := by
  intro p l e R s m args below meth c G o X H locs cells slots hS hk1 hk2 ls hl
  exact lv_ddiv X.1 X.2.1 hdg hne (k p l e R s m args below meth c G o X H locs cells slots hS hk1 hk2 ls hl)
theorem mj_dneg {x : UInt64} (hdg : decode M.2.1 pc = .ok (.dneg, 1))  (k : mj_W M Q d kc ks (pc + 1) L (.double (FP.dneg x) :: S) h) : mj_W M Q d kc ks pc L (.double x :: S) h := by
  intro p l e R s m args below meth c G o X H locs cells slots hS hk1 hk2 ls hl
  exact lv_dneg X.1 X.2.1 hdg (k p l e R s m args below meth c G o X H locs cells slots hS hk1 hk2 ls hl)
theorem mj_dcmp {x y : UInt64} {op : CmpOp} (hdg : decode M.2.1 pc = .ok (.dcmp op, 1))  (k : mj_W M Q d kc ks (pc + 1) L (.int (Op.cmpValue (FP.dcmp x y) op) :: S) h) : mj_W M Q d kc ks pc L (.double y :: .double x :: S) h := by
  intro p l e R s m args below meth c G o X H locs cells slots hS hk1 hk2 ls hl
  exact lv_dcmp X.1 X.2.1 hdg (k p l e R s m args below meth c G o X H locs cells slots hS hk1 hk2 ls hl)
theorem mj_i2d {x : Int32} (hdg : decode M.2.1 pc = .ok (.i2d, 1))  (k : mj_W M Q d kc ks (pc + 1) L (.double (FP.i2d x) :: S) h) : mj_W M Q d kc ks pc L (.int x :: S) h := by
  intro p l e R s m args below meth c G o X H locs cells slots hS hk1 hk2 ls hl
  exact lv_i2d X.1 X.2.1 hdg (k p l e R s m args below meth c G o X H locs cells slots hS hk1 hk2 ls hl)
theorem mj_l2d {x : Int64} (hdg : decode M.2.1 pc = .ok (.l2d, 1))  (k : mj_W M Q d kc ks (pc + 1) L (.double (FP.l2d x) :: S) h) : mj_W M Q d kc ks pc L (.long x :: S) h := by
  intro p l e R s m args below meth c G o X H locs cells slots hS hk1 hk2 ls hl
  exact lv_l2d X.1 X.2.1 hdg (k p l e R s m args below meth c G o X H locs cells slots hS hk1 hk2 ls hl)
theorem mj_d2i {x : UInt64} (hdg : decode M.2.1 pc = .ok (.d2i, 1))  (k : mj_W M Q d kc ks (pc + 1) L (.int (FP.d2i x) :: S) h) : mj_W M Q d kc ks pc L (.double x :: S) h := by
  intro p l e R s m args below meth c G o X H locs cells slots hS hk1 hk2 ls hl
  exact lv_d2i X.1 X.2.1 hdg (k p l e R s m args below meth c G o X H locs cells slots hS hk1 hk2 ls hl)
theorem mj_d2l {x : UInt64} (hdg : decode M.2.1 pc = .ok (.d2l, 1))  (k : mj_W M Q d kc ks (pc + 1) L (.long (FP.d2l x) :: S) h) : mj_W M Q d kc ks pc L (.double x :: S) h := by
  intro p l e R s m args below meth c G o X H locs cells slots hS hk1 hk2 ls hl
  exact lv_d2l X.1 X.2.1 hdg (k p l e R s m args below meth c G o X H locs cells slots hS hk1 hk2 ls hl)
theorem mj_f2d {x : UInt32} (hdg : decode M.2.1 pc = .ok (.f2d, 1)) (hne : vf_n64 (FP.f2d x)) (k : mj_W M Q d kc ks (pc + 1) L (.double (FP.f2d x) :: S) h) : mj_W M Q d kc ks pc L (.float x :: S) h := by
  intro p l e R s m args below meth c G o X H locs cells slots hS hk1 hk2 ls hl
  exact lv_f2d X.1 X.2.1 hdg hne (k p l e R s m args below meth c G o X H locs cells slots hS hk1 hk2 ls hl)
theorem mj_d2f {x : UInt64} (hdg : decode M.2.1 pc = .ok (.d2f, 1)) (hne : vf_n32 (FP.d2f x)) (k : mj_W M Q d kc ks (pc + 1) L (.float (FP.d2f x) :: S) h) : mj_W M Q d kc ks pc L (.double x :: S) h := by
  intro p l e R s m args below meth c G o X H locs cells slots hS hk1 hk2 ls hl
  exact lv_d2f X.1 X.2.1 hdg hne (k p l e R s m args below meth c G o X H locs cells slots hS hk1 hk2 ls hl)
theorem mj_goto {off : Int} {tgt : Nat} (hdg : decode M.2.1 pc = .ok (.goto off, 3)) (ht : (pc : Int) + off = (tgt : Int)) (k : mj_W M Q d kc ks tgt L (S) h) : mj_W M Q d kc ks pc L (S) h := by
  intro p l e R s m args below meth c G o X H locs cells slots hS hk1 hk2 ls hl
  exact lv_goto X.1 X.2.1 hdg ht (k p l e R s m args below meth c G o X H locs cells slots hS hk1 hk2 ls hl)
theorem mj_if_eq {x : Int32} {off : Int} {tgt : Nat} (hdg : decode M.2.1 pc = .ok (.ifCond .eq off, 3)) (ht : (pc : Int) + off = (tgt : Int)) (kt : x = 0 → mj_W M Q d kc ks tgt L (S) h) (kf : ¬ x = 0 → mj_W M Q d kc ks (pc + 3) L (S) h) : mj_W M Q d kc ks pc L (.int x :: S) h := by
  intro p l e R s m args below meth c G o X H locs cells slots hS hk1 hk2 ls hl
  exact lv_if_eq X.1 X.2.1 hdg ht (fun q => kt q p l e R s m args below meth c G o X H locs cells slots hS hk1 hk2 ls hl) (fun q => kf q p l e R s m args below meth c G o X H locs cells slots hS hk1 hk2 ls hl)
theorem mj_if_ne {x : Int32} {off : Int} {tgt : Nat} (hdg : decode M.2.1 pc = .ok (.ifCond .ne off, 3)) (ht : (pc : Int) + off = (tgt : Int)) (kt : ¬ x = 0 → mj_W M Q d kc ks tgt L (S) h) (kf : x = 0 → mj_W M Q d kc ks (pc + 3) L (S) h) : mj_W M Q d kc ks pc L (.int x :: S) h := by
  intro p l e R s m args below meth c G o X H locs cells slots hS hk1 hk2 ls hl
  exact lv_if_ne X.1 X.2.1 hdg ht (fun q => kt q p l e R s m args below meth c G o X H locs cells slots hS hk1 hk2 ls hl) (fun q => kf q p l e R s m args below meth c G o X H locs cells slots hS hk1 hk2 ls hl)
theorem mj_if_lt {x : Int32} {off : Int} {tgt : Nat} (hdg : decode M.2.1 pc = .ok (.ifCond .lt off, 3)) (ht : (pc : Int) + off = (tgt : Int)) (kt : x < 0 → mj_W M Q d kc ks tgt L (S) h) (kf : ¬ x < 0 → mj_W M Q d kc ks (pc + 3) L (S) h) : mj_W M Q d kc ks pc L (.int x :: S) h := by
  intro p l e R s m args below meth c G o X H locs cells slots hS hk1 hk2 ls hl
  exact lv_if_lt X.1 X.2.1 hdg ht (fun q => kt q p l e R s m args below meth c G o X H locs cells slots hS hk1 hk2 ls hl) (fun q => kf q p l e R s m args below meth c G o X H locs cells slots hS hk1 hk2 ls hl)
theorem mj_if_ge {x : Int32} {off : Int} {tgt : Nat} (hdg : decode M.2.1 pc = .ok (.ifCond .ge off, 3)) (ht : (pc : Int) + off = (tgt : Int)) (kt : 0 ≤ x → mj_W M Q d kc ks tgt L (S) h) (kf : ¬ 0 ≤ x → mj_W M Q d kc ks (pc + 3) L (S) h) : mj_W M Q d kc ks pc L (.int x :: S) h := by
  intro p l e R s m args below meth c G o X H locs cells slots hS hk1 hk2 ls hl
  exact lv_if_ge X.1 X.2.1 hdg ht (fun q => kt q p l e R s m args below meth c G o X H locs cells slots hS hk1 hk2 ls hl) (fun q => kf q p l e R s m args below meth c G o X H locs cells slots hS hk1 hk2 ls hl)
theorem mj_if_gt {x : Int32} {off : Int} {tgt : Nat} (hdg : decode M.2.1 pc = .ok (.ifCond .gt off, 3)) (ht : (pc : Int) + off = (tgt : Int)) (kt : 0 < x → mj_W M Q d kc ks tgt L (S) h) (kf : ¬ 0 < x → mj_W M Q d kc ks (pc + 3) L (S) h) : mj_W M Q d kc ks pc L (.int x :: S) h := by
  intro p l e R s m args below meth c G o X H locs cells slots hS hk1 hk2 ls hl
  exact lv_if_gt X.1 X.2.1 hdg ht (fun q => kt q p l e R s m args below meth c G o X H locs cells slots hS hk1 hk2 ls hl) (fun q => kf q p l e R s m args below meth c G o X H locs cells slots hS hk1 hk2 ls hl)
theorem mj_if_le {x : Int32} {off : Int} {tgt : Nat} (hdg : decode M.2.1 pc = .ok (.ifCond .le off, 3)) (ht : (pc : Int) + off = (tgt : Int)) (kt : x ≤ 0 → mj_W M Q d kc ks tgt L (S) h) (kf : ¬ x ≤ 0 → mj_W M Q d kc ks (pc + 3) L (S) h) : mj_W M Q d kc ks pc L (.int x :: S) h := by
  intro p l e R s m args below meth c G o X H locs cells slots hS hk1 hk2 ls hl
  exact lv_if_le X.1 X.2.1 hdg ht (fun q => kt q p l e R s m args below meth c G o X H locs cells slots hS hk1 hk2 ls hl) (fun q => kf q p l e R s m args below meth c G o X H locs cells slots hS hk1 hk2 ls hl)
theorem mj_icmp_eq {x y : Int32} {off : Int} {tgt : Nat} (hdg : decode M.2.1 pc = .ok (.if_icmp .eq off, 3)) (ht : (pc : Int) + off = (tgt : Int)) (kt : x = y → mj_W M Q d kc ks tgt L (S) h) (kf : ¬ x = y → mj_W M Q d kc ks (pc + 3) L (S) h) : mj_W M Q d kc ks pc L (.int y :: .int x :: S) h := by
  intro p l e R s m args below meth c G o X H locs cells slots hS hk1 hk2 ls hl
  exact lv_icmp_eq X.1 X.2.1 hdg ht (fun q => kt q p l e R s m args below meth c G o X H locs cells slots hS hk1 hk2 ls hl) (fun q => kf q p l e R s m args below meth c G o X H locs cells slots hS hk1 hk2 ls hl)
theorem mj_icmp_ne {x y : Int32} {off : Int} {tgt : Nat} (hdg : decode M.2.1 pc = .ok (.if_icmp .ne off, 3)) (ht : (pc : Int) + off = (tgt : Int)) (kt : ¬ x = y → mj_W M Q d kc ks tgt L (S) h) (kf : x = y → mj_W M Q d kc ks (pc + 3) L (S) h) : mj_W M Q d kc ks pc L (.int y :: .int x :: S) h := by
  intro p l e R s m args below meth c G o X H locs cells slots hS hk1 hk2 ls hl
  exact lv_icmp_ne X.1 X.2.1 hdg ht (fun q => kt q p l e R s m args below meth c G o X H locs cells slots hS hk1 hk2 ls hl) (fun q => kf q p l e R s m args below meth c G o X H locs cells slots hS hk1 hk2 ls hl)
theorem mj_icmp_lt {x y : Int32} {off : Int} {tgt : Nat} (hdg : decode M.2.1 pc = .ok (.if_icmp .lt off, 3)) (ht : (pc : Int) + off = (tgt : Int)) (kt : x < y → mj_W M Q d kc ks tgt L (S) h) (kf : ¬ x < y → mj_W M Q d kc ks (pc + 3) L (S) h) : mj_W M Q d kc ks pc L (.int y :: .int x :: S) h := by
  intro p l e R s m args below meth c G o X H locs cells slots hS hk1 hk2 ls hl
  exact lv_icmp_lt X.1 X.2.1 hdg ht (fun q => kt q p l e R s m args below meth c G o X H locs cells slots hS hk1 hk2 ls hl) (fun q => kf q p l e R s m args below meth c G o X H locs cells slots hS hk1 hk2 ls hl)
theorem mj_icmp_ge {x y : Int32} {off : Int} {tgt : Nat} (hdg : decode M.2.1 pc = .ok (.if_icmp .ge off, 3)) (ht : (pc : Int) + off = (tgt : Int)) (kt : y ≤ x → mj_W M Q d kc ks tgt L (S) h) (kf : ¬ y ≤ x → mj_W M Q d kc ks (pc + 3) L (S) h) : mj_W M Q d kc ks pc L (.int y :: .int x :: S) h := by
  intro p l e R s m args below meth c G o X H locs cells slots hS hk1 hk2 ls hl
  exact lv_icmp_ge X.1 X.2.1 hdg ht (fun q => kt q p l e R s m args below meth c G o X H locs cells slots hS hk1 hk2 ls hl) (fun q => kf q p l e R s m args below meth c G o X H locs cells slots hS hk1 hk2 ls hl)
theorem mj_icmp_gt {x y : Int32} {off : Int} {tgt : Nat} (hdg : decode M.2.1 pc = .ok (.if_icmp .gt off, 3)) (ht : (pc : Int) + off = (tgt : Int)) (kt : y < x → mj_W M Q d kc ks tgt L (S) h) (kf : ¬ y < x → mj_W M Q d kc ks (pc + 3) L (S) h) : mj_W M Q d kc ks pc L (.int y :: .int x :: S) h := by
  intro p l e R s m args below meth c G o X H locs cells slots hS hk1 hk2 ls hl
  exact lv_icmp_gt X.1 X.2.1 hdg ht (fun q => kt q p l e R s m args below meth c G o X H locs cells slots hS hk1 hk2 ls hl) (fun q => kf q p l e R s m args below meth c G o X H locs cells slots hS hk1 hk2 ls hl)
theorem mj_icmp_le {x y : Int32} {off : Int} {tgt : Nat} (hdg : decode M.2.1 pc = .ok (.if_icmp .le off, 3)) (ht : (pc : Int) + off = (tgt : Int)) (kt : x ≤ y → mj_W M Q d kc ks tgt L (S) h) (kf : ¬ x ≤ y → mj_W M Q d kc ks (pc + 3) L (S) h) : mj_W M Q d kc ks pc L (.int y :: .int x :: S) h := by
  intro p l e R s m args below meth c G o X H locs cells slots hS hk1 hk2 ls hl
  exact lv_icmp_le X.1 X.2.1 hdg ht (fun q => kt q p l e R s m args below meth c G o X H locs cells slots hS hk1 hk2 ls hl) (fun q => kf q p l e R s m args below meth c G o X H locs cells slots hS hk1 hk2 ls hl)
theorem mj_lookup {dflt : Int} {ps : Array (Int × Int)} {len : Nat} {x : Int32} {off : Int} {tgt : Nat} (hdg : decode M.2.1 pc = .ok (.lookupswitch dflt ps, len)) (hp : (ps.toList.zip (ps.toList.drop 1)).all (fun (a, next) => a.1 < next.1) = true) (ho : Op.lookupswitch.offset ps.toList dflt x.toInt = off) (ht : (pc : Int) + off = (tgt : Int)) (k : mj_W M Q d kc ks tgt L (S) h) : mj_W M Q d kc ks pc L (.int x :: S) h := by
  intro p l e R s m args below meth c G o X H locs cells slots hS hk1 hk2 ls hl
  exact lv_lookup X.1 X.2.1 hdg hp ho ht (k p l e R s m args below meth c G o X H locs cells slots hS hk1 hk2 ls hl)
theorem mj_tableOut {dflt lo hi : Int} {offs : Array Int} {len : Nat} {x : Int32} {tgt : Nat} (hdg : decode M.2.1 pc = .ok (.tableswitch dflt lo hi offs, len)) (hx : x.toInt < lo ∨ hi < x.toInt) (ht : (pc : Int) + dflt = (tgt : Int)) (k : mj_W M Q d kc ks tgt L (S) h) : mj_W M Q d kc ks pc L (.int x :: S) h := by
  intro p l e R s m args below meth c G o X H locs cells slots hS hk1 hk2 ls hl
  exact lv_tableOut X.1 X.2.1 hdg hx ht (k p l e R s m args below meth c G o X H locs cells slots hS hk1 hk2 ls hl)
theorem mj_tableIn {dflt lo hi : Int} {offs : Array Int} {len : Nat} {x : Int32} {off : Int} {tgt : Nat} (hdg : decode M.2.1 pc = .ok (.tableswitch dflt lo hi offs, len)) (h1 : ¬ x.toInt < lo) (h2 : ¬ hi < x.toInt) (ho : offs[(x.toInt - lo).toNat]? = some off) (ht : (pc : Int) + off = (tgt : Int)) (k : mj_W M Q d kc ks tgt L (S) h) : mj_W M Q d kc ks pc L (.int x :: S) h := by
  intro p l e R s m args below meth c G o X H locs cells slots hS hk1 hk2 ls hl
  exact lv_tableIn X.1 X.2.1 hdg h1 h2 ho ht (k p l e R s m args below meth c G o X H locs cells slots hS hk1 hk2 ls hl)
theorem mj_iload_n {i4 : Fin 4} {x : Int32} (hdg : decode M.2.1 pc = .ok (.iload_n i4, 1)) (hi : L[(i4 : Nat)]? = some (some (.int x))) (k : mj_W M Q d kc ks (pc + 1) L (.int x :: S) h) : mj_W M Q d kc ks pc L S h := by
  intro p l e R s m args below meth c G o X H locs cells slots hS hk1 hk2 ls hl
  exact lv_iload_n X.1 X.2.1 hdg rfl (hl.at hi) (k p l e R s m args below meth c G o X H locs cells slots hS hk1 hk2 ls hl)
theorem mj_iload {i : Nat} {x : Int32} (hdg : decode M.2.1 pc = .ok (.iload i, 2)) (hi : L[i]? = some (some (.int x))) (k : mj_W M Q d kc ks (pc + 2) L (.int x :: S) h) : mj_W M Q d kc ks pc L S h := by
  intro p l e R s m args below meth c G o X H locs cells slots hS hk1 hk2 ls hl
  exact lv_iload X.1 X.2.1 hdg (hl.at hi) (k p l e R s m args below meth c G o X H locs cells slots hS hk1 hk2 ls hl)
theorem mj_lload_n {i4 : Fin 4} {x : Int64} (hdg : decode M.2.1 pc = .ok (.lload_n i4, 1)) (hi : L[(i4 : Nat)]? = some (some (.long x))) (k : mj_W M Q d kc ks (pc + 1) L (.long x :: S) h) : mj_W M Q d kc ks pc L S h := by
  intro p l e R s m args below meth c G o X H locs cells slots hS hk1 hk2 ls hl
  exact lv_lload_n X.1 X.2.1 hdg rfl (hl.at hi) (k p l e R s m args below meth c G o X H locs cells slots hS hk1 hk2 ls hl)
theorem mj_lload {i : Nat} {x : Int64} (hdg : decode M.2.1 pc = .ok (.lload i, 2)) (hi : L[i]? = some (some (.long x))) (k : mj_W M Q d kc ks (pc + 2) L (.long x :: S) h) : mj_W M Q d kc ks pc L S h := by
  intro p l e R s m args below meth c G o X H locs cells slots hS hk1 hk2 ls hl
  exact lv_lload X.1 X.2.1 hdg (hl.at hi) (k p l e R s m args below meth c G o X H locs cells slots hS hk1 hk2 ls hl)
theorem mj_fload_n {i4 : Fin 4} {x : UInt32} (hdg : decode M.2.1 pc = .ok (.fload_n i4, 1)) (hi : L[(i4 : Nat)]? = some (some (.float x))) (k : mj_W M Q d kc ks (pc + 1) L (.float x :: S) h) : mj_W M Q d kc ks pc L S h := by
  intro p l e R s m args below meth c G o X H locs cells slots hS hk1 hk2 ls hl
  exact lv_fload_n X.1 X.2.1 hdg rfl (hl.at hi) (k p l e R s m args below meth c G o X H locs cells slots hS hk1 hk2 ls hl)
theorem mj_fload {i : Nat} {x : UInt32} (hdg : decode M.2.1 pc = .ok (.fload i, 2)) (hi : L[i]? = some (some (.float x))) (k : mj_W M Q d kc ks (pc + 2) L (.float x :: S) h) : mj_W M Q d kc ks pc L S h := by
  intro p l e R s m args below meth c G o X H locs cells slots hS hk1 hk2 ls hl
  exact lv_fload X.1 X.2.1 hdg (hl.at hi) (k p l e R s m args below meth c G o X H locs cells slots hS hk1 hk2 ls hl)
theorem mj_dload_n {i4 : Fin 4} {x : UInt64} (hdg : decode M.2.1 pc = .ok (.dload_n i4, 1)) (hi : L[(i4 : Nat)]? = some (some (.double x))) (k : mj_W M Q d kc ks (pc + 1) L (.double x :: S) h) : mj_W M Q d kc ks pc L S h := by
  intro p l e R s m args below meth c G o X H locs cells slots hS hk1 hk2 ls hl
  exact lv_dload_n X.1 X.2.1 hdg rfl (hl.at hi) (k p l e R s m args below meth c G o X H locs cells slots hS hk1 hk2 ls hl)
theorem mj_dload {i : Nat} {x : UInt64} (hdg : decode M.2.1 pc = .ok (.dload i, 2)) (hi : L[i]? = some (some (.double x))) (k : mj_W M Q d kc ks (pc + 2) L (.double x :: S) h) : mj_W M Q d kc ks pc L S h := by
  intro p l e R s m args below meth c G o X H locs cells slots hS hk1 hk2 ls hl
  exact lv_dload X.1 X.2.1 hdg (hl.at hi) (k p l e R s m args below meth c G o X H locs cells slots hS hk1 hk2 ls hl)
theorem mj_aload_n {i4 : Fin 4} {x : Nat} (hdg : decode M.2.1 pc = .ok (.aload_n i4, 1)) (hi : L[(i4 : Nat)]? = some (some (.ref x))) (k : mj_W M Q d kc ks (pc + 1) L (.ref x :: S) h) : mj_W M Q d kc ks pc L S h := by
  intro p l e R s m args below meth c G o X H locs cells slots hS hk1 hk2 ls hl
  exact lv_aload_n X.1 X.2.1 hdg rfl (hl.at hi) (k p l e R s m args below meth c G o X H locs cells slots hS hk1 hk2 ls hl)
theorem mj_aload {i : Nat} {x : Nat} (hdg : decode M.2.1 pc = .ok (.aload i, 2)) (hi : L[i]? = some (some (.ref x))) (k : mj_W M Q d kc ks (pc + 2) L (.ref x :: S) h) : mj_W M Q d kc ks pc L S h := by
  intro p l e R s m args below meth c G o X H locs cells slots hS hk1 hk2 ls hl
  exact lv_aload X.1 X.2.1 hdg (hl.at hi) (k p l e R s m args below meth c G o X H locs cells slots hS hk1 hk2 ls hl)
theorem mj_aload_nX {i4 : Fin 4} {x : Nat} (hdg : decode M.2.1 pc = .ok (.aload_n i4, 1)) (hi : L[(i4 : Nat)]? = some (some (.retAddr x))) (k : mj_W M Q d kc ks (pc + 1) L (.retAddr x :: S) h) : mj_W M Q d kc ks pc L S h := by
  intro p l e R s m args below meth c G o X H locs cells slots hS hk1 hk2 ls hl
  exact lv_aload_n X.1 X.2.1 hdg rfl (hl.at hi) (k p l e R s m args below meth c G o X H locs cells slots hS hk1 hk2 ls hl)
theorem mj_istore_n {i4 : Fin 4} {x : Int32} {L' : List (Option Value)} (hdg : decode M.2.1 pc = .ok (.istore_n i4, 1)) (hi : (i4 : Nat) < M.2.2.1) (hn : mj_n2 L i4 = true) (hL : mj_s1 L i4 (.int x) = L') (k : mj_W M Q d kc ks (pc + 1) L' S h) : mj_W M Q d kc ks pc L (.int x :: S) h := by
  subst hL
  intro p l e R s m args below meth c G o X H locs cells slots hS hk1 hk2 ls hl
  exact lv_istore_n (x := x) X.1 X.2.1 hdg rfl hl.has hi rfl (fun ls' hl' => k p l e R s m args below meth c G o X H locs cells slots hS hk1 hk2 ls' (mj_L.of1 (v := .int x) hn hl'))
theorem mj_istore {i : Nat} {x : Int32} {L' : List (Option Value)} (hdg : decode M.2.1 pc = .ok (.istore i, 2)) (hi : i < M.2.2.1) (hn : mj_n2 L i = true) (hL : mj_s1 L i (.int x) = L') (k : mj_W M Q d kc ks (pc + 2) L' S h) : mj_W M Q d kc ks pc L (.int x :: S) h := by
  subst hL
  intro p l e R s m args below meth c G o X H locs cells slots hS hk1 hk2 ls hl
  exact lv_istore (x := x) X.1 X.2.1 hdg hl.has hi rfl (fun ls' hl' => k p l e R s m args below meth c G o X H locs cells slots hS hk1 hk2 ls' (mj_L.of1 (v := .int x) hn hl'))
theorem mj_lstore_n {i4 : Fin 4} {x : Int64} {L' : List (Option Value)} (hdg : decode M.2.1 pc = .ok (.lstore_n i4, 1)) (hi : (i4 : Nat) + 1 < M.2.2.1) (hn : mj_n2 L i4 = true) (hL : mj_s2 L i4 (.long x) = L') (k : mj_W M Q d kc ks (pc + 1) L' S h) : mj_W M Q d kc ks pc L (.long x :: S) h := by
  subst hL
  intro p l e R s m args below meth c G o X H locs cells slots hS hk1 hk2 ls hl
  exact lv_lstore_n (x := x) X.1 X.2.1 hdg rfl hl.has hi rfl (fun ls' hl' => k p l e R s m args below meth c G o X H locs cells slots hS hk1 hk2 ls' (mj_L.of2 (v := .long x) hn hl'))
theorem mj_lstore {i : Nat} {x : Int64} {L' : List (Option Value)} (hdg : decode M.2.1 pc = .ok (.lstore i, 2)) (hi : i + 1 < M.2.2.1) (hn : mj_n2 L i = true) (hL : mj_s2 L i (.long x) = L') (k : mj_W M Q d kc ks (pc + 2) L' S h) : mj_W M Q d kc ks pc L (.long x :: S) h := by
  subst hL
  intro p l e R s m args below meth c G o X H locs cells slots hS hk1 hk2 ls hl
  exact lv_lstore (x := x) X.1 X.2.1 hdg hl.has hi rfl (fun ls' hl' => k p l e R s m args below meth c G o X H locs cells slots hS hk1 hk2 ls' (mj_L.of2 (v := .long x) hn hl'))
theorem mj_fstore_n {i4 : Fin 4} {x : UInt32} {L' : List (Option Value)} (hdg : decode M.2.1 pc = .ok (.fstore_n i4, 1)) (hi : (i4 : Nat) < M.2.2.1) (hn : mj_n2 L i4 = true) (hL : mj_s1 L i4 (.float x) = L') (k : mj_W M Q d kc ks (pc + 1) L' S h) : mj_W M Q d kc ks pc L (.float x :: S) h := by
  subst hL
  intro p l e R s m args below meth c G o X H locs cells slots hS hk1 hk2 ls hl
  exact lv_fstore_n (x := x) X.1 X.2.1 hdg rfl hl.has hi rfl (fun ls' hl' => k p l e R s m args below meth c G o X H locs cells slots hS hk1 hk2 ls' (mj_L.of1 (v := .float x) hn hl'))
theorem mj_fstore {i : Nat} {x : UInt32} {L' : List (Option Value)} (hdg : decode M.2.1 pc = .ok (.fstore i, 2)) (hi : i < M.2.2.1) (hn : mj_n2 L i = true) (hL : mj_s1 L i (.float x) = L') (k : mj_W M Q d kc ks (pc + 2) L' S h) : mj_W M Q d kc ks pc L (.float x :: S) h := by
  subst hL
  intro p l e R s m args below meth c G o X H locs cells slots hS hk1 hk2 ls hl
  exact lv_fstore (x := x) X.1 X.2.1 hdg hl.has hi rfl (fun ls' hl' => k p l e R s m args below meth c G o X H locs cells slots hS hk1 hk2 ls' (mj_L.of1 (v := .float x) hn hl'))
theorem mj_dstore_n {i4 : Fin 4} {x : UInt64} {L' : List (Option Value)} (hdg : decode M.2.1 pc = .ok (.dstore_n i4, 1)) (hi : (i4 : Nat) + 1 < M.2.2.1) (hn : mj_n2 L i4 = true) (hL : mj_s2 L i4 (.double x) = L') (k : mj_W M Q d kc ks (pc + 1) L' S h) : mj_W M Q d kc ks pc L (.double x :: S) h := by
  subst hL
  intro p l e R s m args below meth c G o X H locs cells slots hS hk1 hk2 ls hl
  exact lv_dstore_n (x := x) X.1 X.2.1 hdg rfl hl.has hi rfl (fun ls' hl' => k p l e R s m args below meth c G o X H locs cells slots hS hk1 hk2 ls' (mj_L.of2 (v := .double x) hn hl'))
theorem mj_dstore {i : Nat} {x : UInt64} {L' : List (Option Value)} (hdg : decode M.2.1 pc = .ok (.dstore i, 2)) (hi : i + 1 < M.2.2.1) (hn : mj_n2 L i = true) (hL : mj_s2 L i (.double x) = L') (k : mj_W M Q d kc ks (pc + 2) L' S h) : mj_W M Q d kc ks pc L (.double x :: S) h := by
  subst hL
  intro p l e R s m args below meth c G o X H locs cells slots hS hk1 hk2 ls hl
  exact lv_dstore (x := x) X.1 X.2.1 hdg hl.has hi rfl (fun ls' hl' => k p l e R s m args below meth c G o X H locs cells slots hS hk1 hk2 ls' (mj_L.of2 (v := .double x) hn hl'))
theorem mj_astore_n {i4 : Fin 4} {x : Nat} {L' : List (Option Value)} (hdg : decode M.2.1 pc = .ok (.astore_n i4, 1)) (hi : (i4 : Nat) < M.2.2.1) (hn : mj_n2 L i4 = true) (hL : mj_s1 L i4 (.ref x) = L') (k : mj_W M Q d kc ks (pc + 1) L' S h) : mj_W M Q d kc ks pc L (.ref x :: S) h := by
  subst hL
  intro p l e R s m args below meth c G o X H locs cells slots hS hk1 hk2 ls hl
  exact lv_astore_n (x := o.1 + x) X.1 X.2.1 hdg rfl hl.has hi rfl (fun ls' hl' => k p l e R s m args below meth c G o X H locs cells slots hS hk1 hk2 ls' (mj_L.of1 (v := .ref x) hn hl'))
theorem mj_astore {i : Nat} {x : Nat} {L' : List (Option Value)} (hdg : decode M.2.1 pc = .ok (.astore i, 2)) (hi : i < M.2.2.1) (hn : mj_n2 L i = true) (hL : mj_s1 L i (.ref x) = L') (k : mj_W M Q d kc ks (pc + 2) L' S h) : mj_W M Q d kc ks pc L (.ref x :: S) h := by
  subst hL
  intro p l e R s m args below meth c G o X H locs cells slots hS hk1 hk2 ls hl
  exact lv_astore (x := o.1 + x) X.1 X.2.1 hdg hl.has hi rfl (fun ls' hl' => k p l e R s m args below meth c G o X H locs cells slots hS hk1 hk2 ls' (mj_L.of1 (v := .ref x) hn hl'))
theorem mj_iinc {i : Nat} {z : Int} {x v : Int32} {L' : List (Option Value)} (hdg : decode M.2.1 pc = .ok (.iinc i z, 3)) (hx : L[i]? = some (some (.int x))) (hv : x + Int32.ofInt z = v) (hi : i < M.2.2.1) (hn : mj_n2 L i = true) (hL : mj_s1 L i (.int v) = L') (k : mj_W M Q d kc ks (pc + 3) L' S h) : mj_W M Q d kc ks pc L S h := by
  subst hL
  intro p l e R s m args below meth c G o X H locs cells slots hS hk1 hk2 ls hl
  obtain ⟨j, hj⟩ := List.getElem?_of_mem (mj_asc_mem (o := o) (L := L) (q := (i, Value.int x)) |>.mpr ⟨.int x, hx, rfl⟩)
  exact lv_iinc X.1 X.2.1 hdg hl.has hj hv hi rfl (fun ls' hl' => k p l e R s m args below meth c G o X H locs cells slots hS hk1 hk2 ls' (mj_L.of1 (v := .int v) hn hl'))
theorem mj_dup {va : Value} (hdg : decode M.2.1 pc = .ok (.dup, 1)) (hva : va.category = 1) (k : mj_W M Q d kc ks (pc + 1) L (va :: va :: S) h) : mj_W M Q d kc ks pc L (va :: S) h := by
  intro p l e R s m args below meth c G o X H locs cells slots hS hk1 hk2 ls hl
  exact lv_dup X.1 X.2.1 hdg ((mj_cat o va).trans hva) (k p l e R s m args below meth c G o X H locs cells slots hS hk1 hk2 ls hl)
theorem mj_pop {va : Value} (hdg : decode M.2.1 pc = .ok (.pop, 1)) (hva : va.category = 1) (k : mj_W M Q d kc ks (pc + 1) L (S) h) : mj_W M Q d kc ks pc L (va :: S) h := by
  intro p l e R s m args below meth c G o X H locs cells slots hS hk1 hk2 ls hl
  exact lv_pop X.1 X.2.1 hdg ((mj_cat o va).trans hva) (k p l e R s m args below meth c G o X H locs cells slots hS hk1 hk2 ls hl)
theorem mj_dup_x1 {va vb : Value} (hdg : decode M.2.1 pc = .ok (.dup_x1, 1)) (hva : va.category = 1) (hvb : vb.category = 1) (k : mj_W M Q d kc ks (pc + 1) L (va :: vb :: va :: S) h) : mj_W M Q d kc ks pc L (va :: vb :: S) h := by
  intro p l e R s m args below meth c G o X H locs cells slots hS hk1 hk2 ls hl
  exact lv_dup_x1 X.1 X.2.1 hdg ((mj_cat o va).trans hva) ((mj_cat o vb).trans hvb) (k p l e R s m args below meth c G o X H locs cells slots hS hk1 hk2 ls hl)
theorem mj_dup_x2 {va vb vd : Value} (hdg : decode M.2.1 pc = .ok (.dup_x2, 1)) (hva : va.category = 1) (hvb : vb.category = 1) (hvd : vd.category = 1) (k : mj_W M Q d kc ks (pc + 1) L (va :: vb :: vd :: va :: S) h) : mj_W M Q d kc ks pc L (va :: vb :: vd :: S) h := by
  intro p l e R s m args below meth c G o X H locs cells slots hS hk1 hk2 ls hl
  exact lv_dup_x2 X.1 X.2.1 hdg ((mj_cat o va).trans hva) ((mj_cat o vb).trans hvb) ((mj_cat o vd).trans hvd) (k p l e R s m args below meth c G o X H locs cells slots hS hk1 hk2 ls hl)
theorem mj_dup2_11 {va vb : Value} (hdg : decode M.2.1 pc = .ok (.dup2, 1)) (hva : va.category = 1) (hvb : vb.category = 1) (k : mj_W M Q d kc ks (pc + 1) L (va :: vb :: va :: vb :: S) h) : mj_W M Q d kc ks pc L (va :: vb :: S) h := by
  intro p l e R s m args below meth c G o X H locs cells slots hS hk1 hk2 ls hl
  exact lv_dup2_11 X.1 X.2.1 hdg ((mj_cat o va).trans hva) ((mj_cat o vb).trans hvb) (k p l e R s m args below meth c G o X H locs cells slots hS hk1 hk2 ls hl)
theorem mj_dup2_2 {va : Value} (hdg : decode M.2.1 pc = .ok (.dup2, 1)) (hva : va.category = 2) (k : mj_W M Q d kc ks (pc + 1) L (va :: va :: S) h) : mj_W M Q d kc ks pc L (va :: S) h := by
  intro p l e R s m args below meth c G o X H locs cells slots hS hk1 hk2 ls hl
  exact lv_dup2_2 X.1 X.2.1 hdg ((mj_cat o va).trans hva) (k p l e R s m args below meth c G o X H locs cells slots hS hk1 hk2 ls hl)
theorem mj_pop2_2 {va : Value} (hdg : decode M.2.1 pc = .ok (.pop2, 1)) (hva : va.category = 2) (k : mj_W M Q d kc ks (pc + 1) L (S) h) : mj_W M Q d kc ks pc L (va :: S) h := by
  intro p l e R s m args below meth c G o X H locs cells slots hS hk1 hk2 ls hl
  exact lv_pop2_2 X.1 X.2.1 hdg ((mj_cat o va).trans hva) (k p l e R s m args below meth c G o X H locs cells slots hS hk1 hk2 ls hl)
theorem mj_lcmp {x y : Int64} (hdg : decode M.2.1 pc = .ok (.lcmp, 1)) (k : mj_W M Q d kc ks (pc + 1) L (.int (lg_cmp x y) :: S) h) : mj_W M Q d kc ks pc L (.long y :: .long x :: S) h := by
  intro p l e R s m args below meth c G o X H locs cells slots hS hk1 hk2 ls hl
  exact W.lcmp X.1 X.2.1 hdg (k p l e R s m args below meth c G o X H locs cells slots hS hk1 hk2 ls hl)
theorem mj_topi {x : Int32} (k : ∀ y : Int32, y = x → mj_W M Q d kc ks pc L (.int y :: S) h) : mj_W M Q d kc ks pc L (.int x :: S) h := k x rfl
theorem mj_topl {x : Int64} (k : ∀ y : Int64, y = x → mj_W M Q d kc ks pc L (.long y :: S) h) : mj_W M Q d kc ks pc L (.long x :: S) h := k x rfl
theorem mj_topf {x : UInt32} (k : ∀ y : UInt32, y = x → mj_W M Q d kc ks pc L (.float y :: S) h) : mj_W M Q d kc ks pc L (.float x :: S) h := k x rfl
theorem mj_topd {x : UInt64} (k : ∀ y : UInt64, y = x → mj_W M Q d kc ks pc L (.double y :: S) h) : mj_W M Q d kc ks pc L (.double x :: S) h := k x rfl
theorem mj_ldc {index : Nat} {v : Int32} (hdg : decode M.2.1 pc = .ok (.ldc index, 2)) (hw : mj_in (Jvm.Cond.constant M.1.cls index v)) (k : mj_W M Q d kc ks (pc + 2) L (.int v :: S) h) : mj_W M Q d kc ks pc L S h := by
  intro p l e R s m args below meth c G o X H locs cells slots hS hk1 hk2 ls hl
  exact lv_ldc X.1 X.2.1 X.2.2.2.2.1 (X.2.2.2.2.2.2.2.1.2.1 _ hw args) hdg (k p l e R s m args below meth c G o X H locs cells slots hS hk1 hk2 ls hl)
theorem mj_ldcf {index : Nat} {v : UInt32} (hdg : decode M.2.1 pc = .ok (.ldc index, 2)) (hw : mj_in (Jvm.Cond.constantFloat M.1.cls index v)) (k : mj_W M Q d kc ks (pc + 2) L (.float v :: S) h) : mj_W M Q d kc ks pc L S h := by
  intro p l e R s m args below meth c G o X H locs cells slots hS hk1 hk2 ls hl
  exact lv_ldcf X.1 X.2.1 X.2.2.2.2.1 (X.2.2.2.2.2.2.2.1.2.1 _ hw args) hdg (k p l e R s m args below meth c G o X H locs cells slots hS hk1 hk2 ls hl)
theorem mj_ldc2 {index : Nat} {v : Int64} (hdg : decode M.2.1 pc = .ok (.ldc2_w index, 3)) (hw : mj_in (Jvm.Cond.constantLong M.1.cls index v)) (k : mj_W M Q d kc ks (pc + 3) L (.long v :: S) h) : mj_W M Q d kc ks pc L S h := by
  intro p l e R s m args below meth c G o X H locs cells slots hS hk1 hk2 ls hl
  exact lv_ldc2 X.1 X.2.1 X.2.2.2.2.1 (X.2.2.2.2.2.2.2.1.2.1 _ hw args) hdg (k p l e R s m args below meth c G o X H locs cells slots hS hk1 hk2 ls hl)
theorem mj_ldc2d {index : Nat} {v : UInt64} (hdg : decode M.2.1 pc = .ok (.ldc2_w index, 3)) (hw : mj_in (Jvm.Cond.constantDouble M.1.cls index v)) (k : mj_W M Q d kc ks (pc + 3) L (.double v :: S) h) : mj_W M Q d kc ks pc L S h := by
  intro p l e R s m args below meth c G o X H locs cells slots hS hk1 hk2 ls hl
  exact lv_ldc2d X.1 X.2.1 X.2.2.2.2.1 (X.2.2.2.2.2.2.2.1.2.1 _ hw args) hdg (k p l e R s m args below meth c G o X H locs cells slots hS hk1 hk2 ls hl)
theorem mj_iald {a N : Nat} {f : Nat → Int32} {i : Int32} (hdg : decode M.2.1 pc = .ok (.iaload, 1)) (ha : h[a]? = some (.inl (N, .inl f))) (hin : vp_in i N) (k : mj_W M Q d kc ks (pc + 1) L (.int (f i.toNatClampNeg) :: S) h) : mj_W M Q d kc ks pc L (.int i :: .ref a :: S) h := by
  intro p l e R s m args below meth c G o X H locs cells slots hS hk1 hk2 ls hl
  have hlt : i.toNatClampNeg < N := Nat.not_le.mp fun q => hin (Or.inr q)
  have hc : H[o.1 + a]? = some (arrV G.2.1 N (fun j => .int (f j))) := hS.1.get ha
  exact W.iald (v := .int (f i.toNatClampNeg)) X.1 X.2.1 hc ((X.2.2.2.2.2.2.2.1.1.2 0 _ rfl).1 N (fun j => .int (f j))) (fun q => by cases q) (by rw [arrV_size]; exact hin) (by rw [arrV_read _ _ hlt]) rfl rfl hdg (k p l e R s m args below meth c G o X H locs cells slots hS hk1 hk2 ls hl)
theorem mj_iast {a N : Nat} {f : Nat → Int32} {i : Int32} {x : Int32} (hdg : decode M.2.1 pc = .ok (.iastore, 1)) (ha : h[a]? = some (.inl (N, .inl f))) (hin : vp_in i N) (k : mj_W M Q d kc ks (pc + 1) L S (h.set a (.inl (N, .inl (upd f i.toNatClampNeg x))))) : mj_W M Q d kc ks pc L (.int x :: .int i :: .ref a :: S) h := by
  intro p l e R s m args below meth c G o X H locs cells slots hS hk1 hk2 ls hl
  have hlt : i.toNatClampNeg < N := Nat.not_le.mp fun q => hin (Or.inr q)
  have hc : H[o.1 + a]? = some (arrV G.2.1 N (fun j => .int (f j))) := hS.1.get ha
  refine W.iast X.1 X.2.1 hc ((X.2.2.2.2.2.2.2.1.1.2 0 _ rfl).1 N (fun j => .int (f j))) (fun q => by cases q) (by rw [arrV_size]; exact hin) rfl rfl hdg fun H1 e1 z oq => ?_
  refine k p l e R s m args below meth c G o X H1 _ cells slots (hS.set ha z oq ?_) hk1 hk2 ls hl
  show H1[o.1 + a]? = some (vp_cell _ _)
  rw [e1, vp_cell_i, arrV_store]
  congr 2
  funext q
  by_cases hq : q = i.toNatClampNeg
  · subst hq
    simp [updV, upd]
  · simp [updV, upd, hq]
theorem mj_lald {a N : Nat} {f : Nat → Int64} {i : Int32} (hdg : decode M.2.1 pc = .ok (.laload, 1)) (ha : h[a]? = some (.inl (N, .inr (.inl f)))) (hin : vp_in i N) (k : mj_W M Q d kc ks (pc + 1) L (.long (f i.toNatClampNeg) :: S) h) : mj_W M Q d kc ks pc L (.int i :: .ref a :: S) h := by
  intro p l e R s m args below meth c G o X H locs cells slots hS hk1 hk2 ls hl
  have hlt : i.toNatClampNeg < N := Nat.not_le.mp fun q => hin (Or.inr q)
  have hc : H[o.1 + a]? = some (arrV G.2.2.1 N (fun j => .long (f j))) := hS.1.get ha
  exact W.lald (v := .long (f i.toNatClampNeg)) X.1 X.2.1 hc ((X.2.2.2.2.2.2.2.1.1.2 1 _ rfl).1 N (fun j => .long (f j))) (fun q => by cases q) (by rw [arrV_size]; exact hin) (by rw [arrV_read _ _ hlt]) rfl rfl hdg (k p l e R s m args below meth c G o X H locs cells slots hS hk1 hk2 ls hl)
theorem mj_last {a N : Nat} {f : Nat → Int64} {i : Int32} {x : Int64} (hdg : decode M.2.1 pc = .ok (.lastore, 1)) (ha : h[a]? = some (.inl (N, .inr (.inl f)))) (hin : vp_in i N) (k : mj_W M Q d kc ks (pc + 1) L S (h.set a (.inl (N, .inr (.inl (vp_updL f i.toNatClampNeg x)))))) : mj_W M Q d kc ks pc L (.long x :: .int i :: .ref a :: S) h := by
  intro p l e R s m args below meth c G o X H locs cells slots hS hk1 hk2 ls hl
  have hlt : i.toNatClampNeg < N := Nat.not_le.mp fun q => hin (Or.inr q)
  have hc : H[o.1 + a]? = some (arrV G.2.2.1 N (fun j => .long (f j))) := hS.1.get ha
  refine W.last X.1 X.2.1 hc ((X.2.2.2.2.2.2.2.1.1.2 1 _ rfl).1 N (fun j => .long (f j))) (fun q => by cases q) (by rw [arrV_size]; exact hin) rfl rfl hdg fun H1 e1 z oq => ?_
  refine k p l e R s m args below meth c G o X H1 _ cells slots (hS.set ha z oq ?_) hk1 hk2 ls hl
  show H1[o.1 + a]? = some (vp_cell _ _)
  rw [e1, vp_cell_l, arrV_store]
  congr 2
  funext q
  by_cases hq : q = i.toNatClampNeg
  · subst hq
    simp [updV, vp_updL]
  · simp [updV, vp_updL, hq]
theorem mj_dald {a N : Nat} {f : Nat → UInt64} {i : Int32} (hdg : decode M.2.1 pc = .ok (.daload, 1)) (ha : h[a]? = some (.inl (N, .inr (.inr (.inr (.inl f)))))) (hin : vp_in i N) (k : mj_W M Q d kc ks (pc + 1) L (.double (f i.toNatClampNeg) :: S) h) : mj_W M Q d kc ks pc L (.int i :: .ref a :: S) h := by
  intro p l e R s m args below meth c G o X H locs cells slots hS hk1 hk2 ls hl
  have hlt : i.toNatClampNeg < N := Nat.not_le.mp fun q => hin (Or.inr q)
  have hc : H[o.1 + a]? = some (arrV G.2.2.2 N (fun j => .double (f j))) := hS.1.get ha
  exact W.dald (v := .double (f i.toNatClampNeg)) X.1 X.2.1 hc ((X.2.2.2.2.2.2.2.1.1.2 2 _ rfl).1 N (fun j => .double (f j))) (fun q => by cases q) (by rw [arrV_size]; exact hin) (by rw [arrV_read _ _ hlt]) rfl rfl hdg (k p l e R s m args below meth c G o X H locs cells slots hS hk1 hk2 ls hl)
theorem mj_dast {a N : Nat} {f : Nat → UInt64} {i : Int32} {x : UInt64} (hdg : decode M.2.1 pc = .ok (.dastore, 1)) (ha : h[a]? = some (.inl (N, .inr (.inr (.inr (.inl f)))))) (hin : vp_in i N) (k : mj_W M Q d kc ks (pc + 1) L S (h.set a (.inl (N, .inr (.inr (.inr (.inl (vf_upd f i.toNatClampNeg x)))))))) : mj_W M Q d kc ks pc L (.double x :: .int i :: .ref a :: S) h := by
  intro p l e R s m args below meth c G o X H locs cells slots hS hk1 hk2 ls hl
  have hlt : i.toNatClampNeg < N := Nat.not_le.mp fun q => hin (Or.inr q)
  have hc : H[o.1 + a]? = some (arrV G.2.2.2 N (fun j => .double (f j))) := hS.1.get ha
  refine W.dast X.1 X.2.1 hc ((X.2.2.2.2.2.2.2.1.1.2 2 _ rfl).1 N (fun j => .double (f j))) (fun q => by cases q) (by rw [arrV_size]; exact hin) rfl rfl hdg fun H1 e1 z oq => ?_
  refine k p l e R s m args below meth c G o X H1 _ cells slots (hS.set ha z oq ?_) hk1 hk2 ls hl
  show H1[o.1 + a]? = some (vp_cell _ _)
  rw [e1, vp_cell_d, arrV_store]
  congr 2
  funext q
  by_cases hq : q = i.toNatClampNeg
  · subst hq
    simp [updV, vf_upd]
  · simp [updV, vf_upd, hq]
theorem mj_alen {a N : Nat} {x : (Nat → Int32) ⊕ (Nat → Int64) ⊕ (Nat → UInt32) ⊕ (Nat → UInt64) ⊕ (Nat → Option Nat)} {v : Int32} (hdg : decode M.2.1 pc = .ok (.arraylength, 1)) {f : Nat → Int32} (hx : x = .inl f) (ha : h[a]? = some (.inl (N, x))) (hv : Int32.ofNat N = v) (k : mj_W M Q d kc ks (pc + 1) L (.int v :: S) h) : mj_W M Q d kc ks pc L (.ref a :: S) h := by
  subst hx
  intro p l e R s m args below meth c G o X H locs cells slots hS hk1 hk2 ls hl
  have hc : H[o.1 + a]? = some (arrV G.2.1 N (fun j => .int (f j))) := hS.1.get ha
  exact W.alen (n := v) X.1 X.2.1 hc ((X.2.2.2.2.2.2.2.1.1.2 0 _ rfl).1 N (fun j => .int (f j))) (by rw [arrV_size]; exact hv) rfl rfl hdg (k p l e R s m args below meth c G o X H locs cells slots hS hk1 hk2 ls hl)
end MJR

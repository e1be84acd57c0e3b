/-! methods with handlers: entry, calls that throw and are caught, calls of such methods -/
theorem tableOf_map : ∀ hh : List (Nat × Nat × Nat × Nat), (tableOf hh).map (fun x => (x.startPc, x.endPc, x.handlerPc, x.catchType)) = hh
  | [] => rfl
  | x :: t => by
    show (x.1, x.2.1, x.2.2.1, x.2.2.2) :: (tableOf t).map (fun x => (x.startPc, x.endPc, x.handlerPc, x.catchType)) = x :: t
    rw [tableOf_map t]
theorem mj_hdH {M : mj_M} {x0 : Nat × Nat × Nat × Nat} {t0 : List (Nat × Nat × Nat × Nat)} (h : M.2.2.2.2 = x0 :: t0) : mj_hd M = Cond.codeWith M.1 M.2.1 M.2.2.1 M.2.2.2.1 M.2.2.2.2 := by
  unfold mj_hd
  rw [h]
theorem mj_enterH {M : mj_M} {d : mj_D} {k n : Nat} {As : List Value} {h : mj_H} {Q : mj_E → mj_H → Prop} {r : Nat} {x0 : Nat × Nat × Nat × Nat} {t0 : List (Nat × Nat × Nat × Nat)} (hh : M.2.2.2.2 = x0 :: t0) (hdn : d.2.2 = none) (hp : plainName M.1.cls = true) (hn : (mj_en As).length + r = M.2.2.1) (hW : mj_W M Q d k n 0 (mj_en As ++ List.replicate r none) [] h) : mj_Met M d k n As h Q := by
  intro l G o hF
  rw [mj_hdH hh]
  refine MetFree.of_bodyS (code := M.2.1) (maxLocals := M.2.2.1) (ret := M.2.2.2.1) hp ?_ ?_
  · intro args s m hb hnm
    obtain ⟨m9, meth, c, hn9, h1, h2, h3, h4, -, h5, h6, -⟩ := Cond.codeWith_spec (atoms_spec (ws := [Cond.codeWith M.1 M.2.1 M.2.2.1 M.2.2.2.1 M.2.2.2.2]) hb _ List.mem_cons_self)
    cases hnm.symm.trans hn9
    exact ⟨meth, c, h1, h2, h3, h4, h5, h6⟩
  · intro p e s m args below meth c s₁ B hml hP _
    obtain ⟨rfl, hR, hK⟩ := hP
    have hh0 : s₁.heap = s.heap := by rw [B.state]; rfl
    have hct := vx_table (x := M.1) B (atoms_spec (ws := [Cond.codeWith M.1 M.2.1 M.2.2.1 M.2.2.2.1 M.2.2.2.2]) B.pre _ List.mem_cons_self)
    have K := hW p l e (mj_rm d k n) s m (As.map (mj_v o)).toArray below meth c G o ⟨B.exec, B.bytes, hml, B.returns, findClass_of_methodNamed B.named, B.notSynchronized, (name_of_methodNamed B.named B.method).1, hK, Nat.le_refl _, Nat.le_refl _, hF, by rw [hct]; exact tableOf_map _, fun q hq => by rw [hdn] at hq; cases hq⟩ s.heap [] 0 0 ⟨hR, fun _ _ => rfl, fun q hq => by cases hq⟩ (by rw [Nat.zero_add]; exact Nat.le_refl _) (by rw [Nat.zero_add]; exact Nat.le_refl _) _ (mj_lo hn)
    obtain ⟨t, a1, oc, b1, b2, b3⟩ := K s₁ hh0 (Stand.of_body B)
    refine ⟨t, oc, ?_, b1, b2, b3⟩
    rw [lg_entry_eq]
    exact a1
def mj_tX (G : mj_G) (o : mj_A) (cls : String) (h1 : mj_H) : String → State → State → Prop := fun E st t => E = cls ∧ mj_R G o h1 t.heap ∧ ∀ q : Nat, q < o.1 → t.heap[q]? = st.heap[q]?
theorem mj_Met.metX {M : mj_M} {d : mj_D} {k n ci : Nat} {As : List Value} {h h0 : mj_H} {cls : String} {T0 : u_T} (hM : mj_Met M d k n As h (mj_t ci h0)) (hh : M.2.2.2.2 = []) (hc : mj_cl[ci]? = some (cls, T0, 0)) (l : Launch) (G : mj_G) (o : mj_A) (hF : mj_F l) : vx_Met l M.1 [Cond.code M.1 M.2.1 M.2.2.1 M.2.2.2.1] (mj_rm d k n) (mj_P G o As h) (fun _ _ _ _ => False) (mj_tX G o cls (h0 ++ ([.inr (ci, [])] : mj_H))) k n (fun q => o.1 ≤ q) := by
  have hM9 := hM l G o hF
  rw [mj_hd0 hh] at hM9
  intro p e h1 h2 h3 s m args below h4 h5 h6 h7
  obtain ⟨j, oc, a1, a2, a3, r, h', ⟨hq1, hq2⟩, ho, hR, hb, hW, L, hsame, hL⟩ := hM9 p e h1 h2 h3 s m args below h4 h5 h6 h7
  subst hq1; subst hq2
  have ho' : oc = .threw (o.1 + h0.length) := ho
  have hat := hR.get (a := h0.length) (x := .inr (ci, [])) (by rw [List.getElem?_append_right (Nat.le_refl _), Nat.sub_self]; rfl)
  obtain ⟨r9, hr9, cell, q1, q2, q3, -⟩ := hat
  have hr : r9 = (cls, T0, 0) := Option.some.inj (hr9.symm.trans hc)
  subst hr
  have hKc := h6.2.2.1.1 ci _ hc
  refine ⟨j, oc, a1, a2, a3, Or.inr ⟨_, ho', cls, cell, L, ⟨rfl, hR, hb⟩, q1, q3, ?_, hW, hsame, hL⟩⟩
  rw [q2]
  exact hKc.2.1
section MJX
variable {M M' : mj_M} {Q Qc : mj_E → mj_H → Prop} {d d' : mj_D} {kc ks pc k' n' : Nat} {L : List (Option Value)} {S S0 : List Value} {h h0 : mj_H} {As : List Value} {index : Nat}
/-- at a handler: the exception, wherever it lies, alone on the stack -/
def mj_Wq (M : mj_M) (Q : mj_E → mj_H → Prop) (d : mj_D) (kc ks pc : Nat) (L : List (Option Value)) (h : mj_H) : Prop :=
  ∀ (p : Program) (l : Launch) (e : Env) (R : Room) (s : State) (m : MethodId) (args : Array Value) (below : List Frame) (meth : Method) (c : Code) (G : mj_G) (o : mj_A), mj_X M G o d p l R s m meth c →
    ∀ (H : Heap) (locs : List Loc) (cells slots : Nat), mj_S G o s h H locs → cells + kc ≤ R.cells → slots + ks ≤ R.slots → ∀ ls : Array Slot, mj_L o M.2.2.1 L ls → ∀ q : Nat,
      W p l e R s m args below meth c H locs cells slots (mj_Z G o Q below s R) (F0 m pc ls [.ref q])
theorem mj_L.ofQ {o : mj_A} {nL : Nat} {L : List (Option Value)} {ls : Array Slot} {i : Nat} {v : Value} (hn : mj_n2 L i = true) (h : lv_has ls nL ((i, v) :: (mj_asc o L).filter (fun q => !(q.1 == i) && !(q.1 + 1 == i && q.2.category == 2)))) : mj_L o nL (L.set i none) ls := by
  refine ⟨h.1, h.2.1, fun j w hj => ?_⟩
  by_cases hji : j = i
  · subst hji
    have hl : j < (L.set j none).length := (List.getElem?_eq_some_iff.mp hj).1
    rw [List.length_set] at hl
    rw [List.getElem?_set_self hl] at hj
    cases hj
  · rw [List.getElem?_set_ne (fun q => hji q.symm)] at hj
    refine h.2.2 (j, mj_v o w) (List.mem_cons_of_mem _ (List.mem_filter.mpr ⟨mj_asc_mem.mpr ⟨w, hj, rfl⟩, ?_⟩))
    simp only [Bool.and_eq_true, Bool.not_eq_true', beq_eq_false_iff_ne, ne_eq, Bool.and_eq_false_iff]
    refine ⟨hji, ?_⟩
    by_cases e1 : j + 1 = i
    · right
      subst e1
      simp only [mj_n2, hj] at hn
      rw [mj_cat]
      intro q
      rw [q] at hn
      cases hn
    · left
      exact e1
theorem mj_astq {i : Nat} (hdg : decode M.2.1 pc = .ok (.astore i, 2)) (hi : i < M.2.2.1) (hn : mj_n2 L i = true) (k : mj_W M Q d kc ks (pc + 2) (L.set i none) [] h) : mj_Wq M Q d kc ks pc L h := by
  intro p l e R s m args below meth c G o X H locs cells slots hS hk1 hk2 ls hl q
  exact lv_astore (x := q) X.1 X.2.1 hdg hl.has hi rfl (fun ls' hl' => k p l e R s m args below meth c G o X H locs cells slots hS hk1 hk2 ls' (mj_L.ofQ hn hl'))
theorem mj_astq_n {i4 : Fin 4} (hdg : decode M.2.1 pc = .ok (.astore_n i4, 1)) (hi : (i4 : Nat) < M.2.2.1) (hn : mj_n2 L i4 = true) (k : mj_W M Q d kc ks (pc + 1) (L.set i4 none) [] h) : mj_Wq M Q d kc ks pc L h := by
  intro p l e R s m args below meth c G o X H locs cells slots hS hk1 hk2 ls hl q
  exact lv_astore_n (x := q) X.1 X.2.1 hdg rfl hl.has hi rfl (fun ls' hl' => k p l e R s m args below meth c G o X H locs cells slots hS hk1 hk2 ls' (mj_L.ofQ hn hl'))
/-- a virtual call that throws, caught by the row x -/
theorem mj_cVX {n a ci N ce : Nat} {T T0 : u_T} {fs : List Value} {cls : String} (hM : mj_Met M' d' k' n' (.ref a :: As) h (mj_t ce h0)) (hdg : decode M.2.1 pc = .ok (.invokevirtual index, 3)) (cw : mj_cw M' n) (hl : mj_in (.methodLink M.1.cls index M'.1)) (hin : mj_in (.instanceMethod M'.1)) (hse : mj_in (.selects M'.1.cls M'.1 M'.1)) (hc : mj_cl[ci]? = some (M'.1.cls, T, N)) (ha : h[a]? = some (.inr (ci, fs))) (hd : d'.1 + 1 ≤ d.1 ∧ 19 + M'.2.2.1 + d'.2.1 ≤ d.2.1) (hn : As.length = n) (hr : mj_rw S) (hS0 : S0 = As.reverse ++ .ref a :: S)
    (hce : mj_cl[ce]? = some (cls, T0, 0)) (pre : List (Nat × Nat × Nat × Nat)) (x : Nat × Nat × Nat × Nat) (suf : List (Nat × Nat × Nat × Nat)) (hsp : M.2.2.2.2 = pre ++ x :: suf)
    (hpass : ∀ z ∈ pre, cls ∈ mj_ncs ∧ z.2.2.2 ≠ 0 ∧ mj_in (.classLink M.1.cls z.2.2.2 "java/lang/IllegalArgumentException")) (hx : x.1 ≤ pc ∧ pc < x.2.1) (hx0 : x.2.2.2 ≠ 0) (hlk : mj_in (.classLink M.1.cls x.2.2.2 cls)) (hca : mj_in (.castable cls cls))
    (kk : mj_Wq M Q d kc ks x.2.2.1 L (h0 ++ ([.inr (ce, [])] : mj_H))) : mj_W M Q d (kc + k') (ks + n') pc L S0 h := by
  subst hS0
  intro p l e R s m args below meth c G o X H locs cells slots hS hk1 hk2 ls hl0
  have hT := X.2.2.2.2.2.2.2.1.2.1
  have hrun := vx_runV (Qc := fun _ _ _ _ => False) (b := o.1 + a) (As := As.map (mj_v o)) (rest := S.map (mj_v o)) (g := F0 m pc ls ((As.reverse ++ .ref a :: S).map (mj_v o))) (e := e) (below := below) (meth := meth) (locs := locs) (cells := cells) (slots := slots) (H := H) (Ts := []) (n := n) (C := M'.1.cls) (args := args) ⟨X.1, X.2.1, X.2.2.1, X.2.2.2.2.1, fun w hw => by cases hw⟩ (hM.metX cw.1 hce l G o X.2.2.2.2.2.2.2.2.2.2.1) ⟨mj_cb X cw hl hd, hT _ hin args, hT _ hse args⟩ ⟨mj_blind, mj_recv X.2.2.2.2.2.2.2.1 hS hc ha, fun U hU hW => mj_pre X hS U hU hW⟩ rfl (by rw [List.length_map]; exact hn) hl0.1 (mj_revR o a As S) (hr.of o) hdg ⟨by omega, by omega⟩
  intro T9 hT9 Y9
  rcases hrun T9 hT9 Y9 with ⟨v, st₀, t, T', Lc, -, -, -, -, -, hF, -⟩ | ⟨q, st₀, t, T', Lc, E, cE, g0, Y', hL, e1, e2, ⟨rfl, hR, hold⟩, hcell, hcv, hcl, st⟩
  · exact hF.elim
  · have hS' : mj_S G o s (h0 ++ ([.inr (ce, [])] : mj_H)) T'.heap (locs ++ Lc) := ⟨by rw [e1]; exact hR, fun q hq' => by rw [e1, hold q hq', g0]; exact hS.2.1 q hq', fun q hq' => by
      rcases List.mem_append.mp hq' with z | z
      · exact hS.2.2 q z
      · exact hL q z⟩
    have htab := X.2.2.2.2.2.2.2.2.2.2.2.1
    have hct : c.exceptionTable.toList = tableOf pre ++ ⟨x.1, x.2.1, x.2.2.1, x.2.2.2⟩ :: tableOf suf := by
      rw [← table_eq c.exceptionTable.toList, htab, hsp]
      unfold tableOf
      rw [List.map_append]
      rfl
    have hC := vx_catch (pc := pc) (ls := ls) (rest := S.map (mj_v o)) (Q := mj_Z G o Q below s R) (name := E) (e := e) (l := l) (R := R) (below := below) (meth := meth) (args := args) (p := p) (cells := cells + k') (slots := slots + n') X.2.2.2.2.1 (tableOf pre) ⟨x.1, x.2.1, x.2.2.1, x.2.2.2⟩ (tableOf suf) hct (fun z hz => by
        unfold tableOf at hz
        obtain ⟨z', hz', rfl⟩ := List.mem_map.mp hz
        obtain ⟨p1, p2, p3⟩ := hpass z' hz'
        exact Or.inr ⟨p2, _, hT _ p3 args, X.2.2.2.2.2.2.2.1.2.2.2.2.2.2.2 E p1⟩) (by
        show (decide (x.1 ≤ pc) && decide (pc < x.2.1)) = true
        rw [decide_eq_true hx.1, decide_eq_true hx.2]; rfl) hx0 (hT _ hlk args) (hT _ hca args) (H := T'.heap) (by rw [e1]; exact hcell) hcv hcl
        (kk p l e R s m args below meth c G o X T'.heap (locs ++ Lc) (cells + k') (slots + n') hS' (by omega) (by omega) ls hl0 q)
    obtain ⟨t2, b1, b2⟩ := hC T' rfl Y'
    exact ⟨t2, st.trans b1, b2⟩
/-- what a static call of a method with handlers asks -/
def mj_cwH (M' : mj_M) (n : Nat) : Prop := (∃ x0 t0, M'.2.2.2.2 = x0 :: t0) ∧ mj_in (Cond.codeWith M'.1 M'.2.1 M'.2.2.1 M'.2.2.2.1 M'.2.2.2.2) ∧ mj_in (.initialized M'.1.cls) ∧ (M'.1.cls ≠ "java/lang/invoke/MethodHandle" ∧ M'.1.cls ≠ "java/lang/invoke/VarHandle") ∧ (parseMethodDescriptor M'.1.desc).map (fun d => d.parameters.length) = some n
theorem mj_cSH {n : Nat} {v : Option Value} {h1 : mj_H} {S1 : List Value} (hM : mj_Met M' d' k' n' As h (mj_q v h1)) (hdg : decode M.2.1 pc = .ok (.invokestatic index, 3)) (cw : mj_cwH M' n) (hl : mj_in (.methodLink M.1.cls index M'.1)) (hst : mj_in (.static M'.1)) (hd : d'.1 + 1 ≤ d.1 ∧ 19 + M'.2.2.1 + d'.2.1 ≤ d.2.1) (hn : As.length = n) (hr : mj_rw S) (hS0 : S0 = As.reverse ++ S) (hS1 : v.toList ++ S = S1)
    (kk : mj_W M Q d kc ks (pc + 3) L S1 h1) : mj_W M Q d (kc + k') (ks + n') pc L S0 h := by
  subst hS0
  subst hS1
  intro p l e R s m args below meth c G o X H locs cells slots hS hk1 hk2 ls hl0
  have hT := X.2.2.2.2.2.2.2.1.2.1
  have hRf := X.2.2.2.2.2.2.2.2.1
  have hRl := X.2.2.2.2.2.2.2.2.2.1
  obtain ⟨⟨x0, t0, hh⟩, c1, c2, c3, c4⟩ := cw
  have hmet : Met l M'.1 [Cond.codeWith M'.1 M'.2.1 M'.2.2.1 M'.2.2.2.1 M'.2.2.2.2] (mj_rm d' k' n') (mj_P G o As h) (mj_Qc G o (mj_q v h1)) k' n' (fun q => o.1 ≤ q) := by
    have hM9 := hM l G o X.2.2.2.2.2.2.2.2.2.2.1
    rw [mj_hdH hh] at hM9
    intro p e g1 g2 g3 s m args below g4 g5 g6 g7
    obtain ⟨j, oc, a1, a2, a3, r, h', hq, ho, hR, hb, hW, Lc, hsame, hL⟩ := hM9 p e g1 g2 g3 s m args below g4 g5 g6 g7
    obtain ⟨rfl, rfl⟩ := hq
    have ho' : oc = .returned (v.map (mj_v o)) := ho
    exact ⟨j, oc, a1, a2, a3, ⟨v, h', ⟨rfl, rfl⟩, ho', hR, hb⟩, Lc, ⟨⟨_, ho'⟩, hW, hsame⟩, hL⟩
  have hcw : vx_CSW R s args M.1.cls index M'.1 M'.2.1 M'.2.2.1 M'.2.2.2.1 M'.2.2.2.2 [Cond.codeWith M'.1 M'.2.1 M'.2.2.1 M'.2.2.2.1 M'.2.2.2.2] (mj_rm d' k' n') k' n' n := by
    refine ⟨⟨rfl, rfl, ?_, ?_, fun w hw a' U hW => ?_, List.mem_cons_self⟩, hT _ c1 args, hT _ c2 args, c3, fun sig hs => ?_, hT _ hl args, hT _ hst args⟩
    · show d'.1 + 1 ≤ R.frames
      omega
    · show 8 + (M'.2.2.1 + 11) + d'.2.1 ≤ R.locals
      omega
    · rw [List.mem_singleton.mp hw]
      exact mj_warm c1.2 hW (hT _ c1 args)
    · rw [hs] at c4
      exact (Option.some.inj c4).symm
  refine mj_run (a := (As.map (mj_v o)).toArray) (Qc := mj_q v h1) (rest := S.map (mj_v o)) (vx_runSW (Ts := []) (n := n) ⟨X.1, X.2.1, X.2.2.1, X.2.2.2.2.1, fun w hw => by cases hw⟩ hmet hcw ⟨mj_blind, fun U hU hW => mj_pre X hS U hU hW⟩ rfl (by rw [List.length_map]; exact hn) hl0.1 (mj_rev o As S) (hr.of o) hdg ⟨by omega, by omega⟩) hS ?_
  intro v' h' H' locs' hq hS'
  obtain ⟨e1, e2⟩ := hq
  cases e1
  subst e2
  have hk := kk p l e R s m args below meth c G o X H' locs' (cells + k') (slots + n') hS' (by omega) (by omega) ls hl0
  cases v with
  | none => exact hk
  | some w => exact hk
end MJX

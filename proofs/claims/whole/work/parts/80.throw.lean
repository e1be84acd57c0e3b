/-! throw new E(): its cell is the last of the list -/
theorem mj_throw0 {M : mj_M} {Q : mj_E → mj_H → Prop} {d : mj_D} {kc ks pc : Nat} {L : List (Option Value)} {h : mj_H} {ik ic ci : Nat} {cls : String} {names : List String} {T0 : u_T}
    (hci : mj_cl[ci]? = some (cls, T0, 0)) (hh : M.2.2.2.2 = []) (hcls : Bundle.fit cls = true) (hnames : ∀ n ∈ names, Bundle.fit n = true)
    (hkl : mj_in (.classLink M.1.cls ik cls)) (hin : mj_in (.initialized cls)) (hatl : ∀ w ∈ vx_at0 M.1.cls ic cls names, mj_in w)
    (hgood : ∀ w ∈ Cond.classLink M.1.cls ik cls :: Cond.initialized cls :: vx_at0 M.1.cls ic cls names, vx_ot w = true)
    (d0 : decode M.2.1 pc = .ok (.new ik, 3)) (d3 : decode M.2.1 (pc + 3) = .ok (.dup, 1)) (d4 : decode M.2.1 (pc + 4) = .ok (.invokespecial ic, 3)) (d7 : decode M.2.1 (pc + 7) = .ok (.athrow, 1))
    (hd : names.length + 3 < d.1 ∧ 13 * (names.length + 1) + 42 ≤ d.2.1) (hQ : Q (.inr h.length) (h ++ [.inr (ci, [])])) : mj_W M Q d (kc + 1) (ks + 6) pc L [] h := by
  intro p l e R s m args below meth c G o X H locs cells slots hS hk1 hk2 ls hl
  have hexec := X.1
  have hb := X.2.1
  have hKT := X.2.2.2.2.2.2.2.1
  have hRf := X.2.2.2.2.2.2.2.2.1
  have hRl := X.2.2.2.2.2.2.2.2.2.1
  have hF : l.stackTraces = false := X.2.2.2.2.2.2.2.2.2.2.1
  have hex : c.exceptionTable.toList = [] := by
    have h9 := X.2.2.2.2.2.2.2.2.2.2.2.1
    rw [hh] at h9
    exact List.map_eq_nil_iff.mp h9
  have hown := X.2.2.2.2.1
  have hlocks := X.2.2.2.2.2.1
  have hk := hKT.2.1 _ hkl args
  have hini := hKT.2.1 _ hin args
  have hat : ∀ w ∈ vx_at0 M.1.cls ic cls names, w.before args s = true := fun w hw => hKT.2.1 _ (hatl w hw) args
  have hU := hKT.2.2.1
  have hN := hKT.2.2.2.1
  have hq1 : ∀ q : Nat, q < s.heap.size → ¬ o.1 ≤ q → H[q]? = s.heap[q]? := fun q _ h9 => hS.2.1 q (by omega)
  have hz := hS.1.1
  intro T hT Y0
  have htr : e.platform.stackTraces = false := (show e.platform.stackTraces = l.stackTraces by rw [Y0.admits.platform]).trans hF
  have Y := vx_rebase Y0 (R' := { frames := R.frames, locals := R.locals, cells := 1, slots := 6 }) (Nat.le_refl _) (Nat.le_refl _) (by show cells + 1 ≤ R.cells; omega) (by show slots + 6 ≤ R.slots; omega)
  obtain ⟨s', hA⟩ : ∃ z, z = (T.setVm s.vm).setFrames (.invoking m args :: below) := ⟨_, rfl⟩
  rw [← hA] at Y
  have hvm : s'.vm = s.vm := by rw [hA]; rfl
  have hhp : s'.heap = H := by rw [hA]; exact hT
  have hW0 : s.WarmedH s'.vm := by rw [hvm]; exact State.WarmedH.refl s
  have hat' : ∀ w ∈ vx_at0 M.1.cls ic cls names, w.before args s' = true := fun w hw => vx_ot_at hW0 hvm.symm (hgood w (List.mem_cons_of_mem _ (List.mem_cons_of_mem _ hw))) (hat w hw)
  have hk' : (Cond.classLink M.1.cls ik cls).before args s' = true := vx_ot_at hW0 hvm.symm (hgood _ List.mem_cons_self) hk
  have hini' : (Cond.initialized cls).before args s' = true := vx_ot_at hW0 hvm.symm (hgood _ (List.mem_cons_of_mem _ List.mem_cons_self)) hini
  have hU' : vx_Zq Bundle.tN "UNASSIGNED_STACK" Bundle.steD (fun q => o.1 ≤ q) s' s'.heap := by rw [hhp]; exact vx_Zq.moved hW0.alike (hU.kept hq1)
  have hN' : vx_Zq Bundle.tN "SUPPRESSED_SENTINEL" Bundle.listD (fun q => o.1 ≤ q) s' s'.heap := by rw [hhp]; exact vx_Zq.moved hW0.alike (hN.kept hq1)
  have ho : ∀ w ∈ Bundle.ownAtoms0 M.1.cls ic cls names, w.before args s' = true := vx_own hat' (vx_isRefq hU'.1) (vx_isRefq hN'.1) hU'.2.word hN'.2.word
  have hown' : s'.vm.findClass M.1.cls = some m.cls := by rw [hvm]; exact hown
  have hins : (Cond.instantiable cls 6).before args s' = true := ho _ (by simp [Bundle.ownAtoms0])
  obtain ⟨vm₁, cX, kX, hfX, hkX, -, -, X₁, st1⟩ := Y.newCold hexec (own := M.1.cls) (C := cls) (index := ik) (n := 6) hown' hk' hins hini'
    (g := F0 m pc ls []) rfl (by rw [hb]; exact d0) (Nat.le_refl _) (Nat.le_refl _)
  generalize hT1 : (T.setVm vm₁).pushCell { cls := cX, slots := kX.instanceTypes.map defaultValue, vm := .none } = T1 at X₁ st1
  have hcat : (Value.ref T.heap.size).category = 1 := rfl
  have hcellA : T1.heap[T.heap.size]? = some (freshCell cX kX) := by rw [← hT1]; exact State.heap_pushCell_size _ _
  have d3' : decode c.code (pc + 3) = .ok (.dup, 1) := by rw [hb]; exact d3
  obtain ⟨U, hsteps, hrun, hend, hW, hsame, ce, hce, hO⟩ := X₁.ctorThrow0 hexec htr (own := M.1.cls) (cls := cls) (names := names) (ic := ic) hown' hcls hnames ho (fun x hx => nomatch hx) hfX hkX hcellA (by rw [hhp, hT]; exact Nat.le_refl _)
    (g := { method := m, pc := pc + 4, locals := ls, stack := .ref T.heap.size :: .ref T.heap.size :: [], locked := none }) rfl (hl.1.trans X.2.2.1.symm) rfl rfl (rest := []) rfl
    (by rw [hb]; exact d4) (by rw [hb]; exact d7) (fun x hx => by rw [hex] at hx; nomatch hx) (by show names.length + 3 < R.frames; omega) (by simp only [List.map_cons, List.sum_cons, hcat, List.map_nil, List.sum_nil]; show _ ≤ R.locals; omega) hlocks
  obtain ⟨f1, f2⟩ := vx_frame hsame
  have hle : U.heap.size ≤ s'.heap.size + 1 := hsame.2.2.1
  rw [hhp] at f1 f2 hle
  have hWs : s.WarmedH U.vm := State.WarmedH.trans hW0 hW
  have hcl : s.vm.findClass cls = some ce.cls := by
    have h9 := hO.cls
    rw [hvm] at h9
    exact h9
  have hall : s.sameButNew ({ U with vm := s.vm } : State) locs (cells + 1) (slots + 6) := by
    subst hA
    obtain ⟨e1, e2⟩ := hsame
    rw [State.setFrames_setFrames] at e1
    have h2 : (T.setVm s.vm).sameButNew ({ U with vm := s.vm } : State) [] (0 + 1) (0 + 6) := ⟨e1, e2⟩
    have h3 := Y0.same.trans h2
    rw [List.append_nil] at h3
    exact h3
  have hTs : T.heap.size = o.1 + h.length := by rw [hT]; exact hz
  have hlt : o.1 + h.length < U.heap.size := by rw [← hTs]; exact (Array.getElem?_eq_some_iff.mp hce).1
  have hKc := hKT.1.1 ci _ hci
  have hcc : ce.cls = G.1.1 ci := by
    have h9 : s.vm.findClass cls = some (G.1.1 ci) := hKc.2.1
    rw [hcl] at h9
    exact Option.some.inj h9
  refine ⟨U, ?_, .threw T.heap.size, hrun, hend, .inr h.length, h ++ [.inr (ci, [])], hQ, by rw [hTs]; rfl, hS.1.push (by omega) (fun q hq => f2 q hq (fun z hz => nomatch hz)) ⟨_, hci, ?_⟩, fun q hq => ?_, hWs, locs, hall.mono (by omega) (by omega), hS.2.2⟩
  · refine st1 _ ?_
    show Steps p.tables e below (T1.setTop { method := m, pc := pc + 3, locals := ls, stack := .ref T.heap.size :: [], locked := none }) _
    jvm_step X₁.here [X₁.here.top, hexec, d3', Value.category]
    exact hsteps
  · exact ⟨ce, by rw [← hTs]; exact hce, hcc, hO.vm, fun k hk => absurd hk (Nat.not_lt_zero k)⟩
  · rw [f2 q (by omega) (fun z hz => nomatch hz)]
    exact hS.2.1 q hq

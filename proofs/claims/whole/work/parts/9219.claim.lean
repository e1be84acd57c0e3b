/-! the law from its entry, the claim -/
theorem len_small {args : Array Value} {s : State} {tm : Term} {v : Value} (h : (Term.length tm).eval args s none [] s = some v) : ∃ a cell, tm.eval args s none [] s = some (.ref a) ∧ s.arrayAt? a = some cell ∧ cell.slots.size < 2147483648 := by
  simp only [Term.eval, Option.bind_eq_bind] at h
  cases ht : tm.eval args s none [] s with
  | none => simp [ht] at h
  | some x =>
    cases x <;> simp [ht] at h
    case ref a =>
      obtain ⟨cell, hcell, h⟩ := Option.bind_eq_some_iff.mp h
      by_cases hn : cell.slots.size < 2147483648
      · exact ⟨a, cell, rfl, hcell, hn⟩
      · rw [if_neg hn] at h; cases h
theorem lw_magic {args : Array Value} {s : State} (h : (Jvm.Cond.and given_1 narrow_1).before args s = true) : ∃ t : Nat, (Term.static "RasterForge" "MAGIC" "[I").eval args s none [] s = some (.ref t) ∧ va_X t 4 mj_mg s s.heap ∧ t < s.heap.size := by
  have hs := flat_of_before _ h
  have harr : (Cond.arrayOf (.static "RasterForge" "MAGIC" "[I") .int).before args s = true := hs _ (by decide +kernel)
  have hlen : (Term.length (.static "RasterForge" "MAGIC" "[I")).eval args s none [] s = some (.int (Int32.ofNat 4)) := va_eqt (hs (Cond.eq (.length (.static "RasterForge" "MAGIC" "[I")) (.int 4)) (by decide +kernel))
  have h0 := va_eqt (hs (Cond.eq (.elem (.static "RasterForge" "MAGIC" "[I") (.int 0)) (.int 118)) (by decide +kernel))
  have h1 := va_eqt (hs (Cond.eq (.elem (.static "RasterForge" "MAGIC" "[I") (.int 1)) (.int 47)) (by decide +kernel))
  have h2 := va_eqt (hs (Cond.eq (.elem (.static "RasterForge" "MAGIC" "[I") (.int 2)) (.int 49)) (by decide +kernel))
  have h3 := va_eqt (hs (Cond.eq (.elem (.static "RasterForge" "MAGIC" "[I") (.int 3)) (.int 1)) (by decide +kernel))
  generalize Term.static "RasterForge" "MAGIC" "[I" = tm at harr hlen h0 h1 h2 h3 ⊢
  have hel : ∀ j : Nat, j < 4 → (Term.elem tm (.int (Int32.ofNat j))).eval args s none [] s = some (.int (mj_mg j)) := by
    intro j hj
    rcases (show j = 0 ∨ j = 1 ∨ j = 2 ∨ j = 3 by omega) with rfl | rfl | rfl | rfl
    · exact h0
    · exact h1
    · exact h2
    · exact h3
  obtain ⟨t, ht, cell, hcell, hof, hkn, hle, hz, hel', -⟩ := va_Tof (N := 4) (f := fun j => .int (mj_mg j)) (A := fun _ => False) (by decide) harr hlen hel (fun _ _ h => h)
  obtain ⟨t', cell', ht', hat, hsm⟩ := len_small hlen
  cases ht.symm.trans ht'
  obtain ⟨hcell', -, -, -⟩ := State.arrayAt?_spec hat
  cases hcell.symm.trans hcell'
  have h4 : cell.slots.size = 4 := (nI_eq hsm (by decide)).mp hz
  exact ⟨t, ht, ⟨cell, hcell, hof, hkn, h4, hel'⟩, (Array.getElem?_eq_some_iff.mp hcell).1⟩
theorem lw_arr {args : Array Value} {s : State} {ty : FieldType} (h : (Cond.arrayClass ty).before args s = true) : ∃ c : ClassId, ArrOfT s c ty ∧ s.vm.findClass ("[" ++ ty.toString) = some c := by
  obtain ⟨c, k, comp, h1, h2, h3⟩ := Cond.arrayClass_spec h
  exact ⟨c, fun n z => ⟨fun k h => (by cases h), k, h2, comp, h3⟩, h1⟩
theorem lw_new {s t : State} {L : List Loc} {k n : Nat} (h : s.sameButNew t L k n) (hL : ∀ q ∈ L, s.heap.size ≤ q.base) : s.sameButNew t [] k n := by
  obtain ⟨h1, h2, h3, h4, h5, h6⟩ := h
  refine ⟨h1, h2, h3, h4, h5, fun a c hc => ?_⟩
  obtain ⟨c', e1, e2, e3, e4⟩ := h6 a c hc
  refine ⟨c', e1, e2, e3, fun i _ => e4 i fun hm => ?_⟩
  have := hL _ hm
  have hl : a < s.heap.size := (Array.getElem?_eq_some_iff.mp hc).1
  have hb : s.heap.size ≤ a := this
  exact absurd hl (Nat.not_lt.mpr hb)
def R_law : String := "RasterForgeLaw"
def lw_P (b : Addr) (xs : List Int32) (args : Array Value) (s : State) : Prop := args = #[.ref b] ∧ s.IntsAt b xs ∧ xs.length ≤ 2560 ∧ (Jvm.Cond.and given_1 narrow_1).before args s = true
def lw_Q (_ : Array Value) (s : State) (o : Outcome) (t : State) : Prop := o = .returned (some (.int 1)) ∧ Framed s o t [] 601024 7293034
def lw_Z (below : List Frame) (a : Array Value) (s : State) : State → Prop := fun t => ∃ o, t.status = .running ∧ Ended t below o ∧ lw_Q a s o t
/-- what holds at the law's entry: the machine, the code, the tables' words (any of lw_tbl by 'hts w (by decide +kernel)'), the script of L ints xs at the cell b, what the Statement gives of the start (any of its parts by flat_of_before) -/
def lw_At (p : Program) (s : State) (m : MethodId) (meth : Method) (c : Code) (b L : Nat) (xs : Nat → Int32) : Prop :=
  p.tables.exec = Jvm.exec ∧ c.code = code ∧ meth.sig.returnType = ret ∧ c.maxLocals = 9 ∧ s.vm.findClass R_law = some m.cls ∧ (∀ w ∈ lw_tbl, w.before #[Value.ref b] s = true) ∧ va_X b L xs s s.heap ∧ b < s.heap.size ∧ meth.locks = false ∧ (Jvm.Cond.and given_1 narrow_1).before #[Value.ref b] s = true
set_option maxRecDepth 100000 in
set_option maxHeartbeats 4000000 in
theorem lw_K {s : State} {b : Nat} (hts : ∀ w ∈ lw_tbl, w.before #[Value.ref b] s = true) (hgv : (Jvm.Cond.and given_1 narrow_1).before #[Value.ref b] s = true) : ∃ (G : mj_G) (o : mj_A), o.1 = s.heap.size ∧ o.2 1 = b ∧ mj_K G o s := by
  have hs := flat_of_before _ hgv
  obtain ⟨t, ht, hX, htl⟩ := lw_magic hgv
  have hA : ∀ a : Nat, a < s.heap.size → ¬ s.heap.size ≤ a := fun a h => Nat.not_le.mpr h
  obtain ⟨cI, aI, nIx⟩ := lw_arr (hts _ ac_int.1)
  obtain ⟨cL, aL, nLx⟩ := lw_arr (hts _ ac_long.1)
  obtain ⟨cD, aD, nDx⟩ := lw_arr (hts _ ac_double.1)
  obtain ⟨c0, i0, k0⟩ := u_known (C := "RasterForge") (T := T_RF) (N := 7) (n := 7) hts (fun w hw => (ok_RF.2.1 w hw).1) (hts _ ia_RF.1)
  obtain ⟨c1, i1, k1⟩ := u_known (C := "RasterForge$Bytes") (T := T_By) (N := 3) (n := 3) hts (fun w hw => (ok_By.2.1 w hw).1) (hts _ ia_By.1)
  obtain ⟨c2, i2, k2⟩ := u_known (C := "RasterForge$Coder") (T := T_Co) (N := 4) (n := 4) hts (fun w hw => (ok_Co.2.1 w hw).1) (hts _ ia_Co.1)
  obtain ⟨c3, i3, k3⟩ := u_known (C := "RasterForge$Packer") (T := T_Pa) (N := 1) (n := 1) hts (fun w hw => (ok_Pa.2.1 w hw).1) (hts _ ia_Pa.1)
  obtain ⟨c4, i4, k4⟩ := u_known (C := "RasterForge$Picture") (T := T_Pi) (N := 7) (n := 7) hts (fun w hw => (ok_Pi.2.1 w hw).1) (hts _ ia_Pi.1)
  obtain ⟨c5, i5, k5⟩ := u_known (C := "RasterForge$Reader") (T := T_Re) (N := 5) (n := 5) hts (fun w hw => (ok_Re.2.1 w hw).1) (hts _ ia_Re.1)
  obtain ⟨c6, i6, k6⟩ := u_known (C := "RasterForge$Wavelet") (T := T_Wv) (N := 1) (n := 1) hts (fun w hw => (ok_Wv.2.1 w hw).1) (hts _ ia_Wv.1)
  obtain ⟨c7, i7, k7⟩ := u_known (C := "RasterForge$Writer") (T := T_Wr) (N := 0) (n := 0) hts (fun w hw => (ok_Wr.2.1 w hw).1) (hts _ ia_Wr.1)
  obtain ⟨c8, i8, k8⟩ := u_known (C := "RasterForgeModel") (T := T_Mo) (N := 27) (n := 27) hts (fun w hw => (ok_Mo.2.1 w hw).1) (hts _ ia_Mo.1)
  obtain ⟨c9, i9, k9⟩ := u_known (C := "java/lang/IllegalArgumentException") (T := T_IA) (N := 0) (n := 6) hts (fun w hw => by cases hw) (hts _ ia_IA.1)
  obtain ⟨c10, i10, k10⟩ := u_known (C := "java/lang/IllegalStateException") (T := T_IS) (N := 0) (n := 6) hts (fun w hw => by cases hw) (hts _ ia_IS.1)
  obtain ⟨c11, i11, k11⟩ := u_known (C := "java/lang/IndexOutOfBoundsException") (T := T_IO) (N := 0) (n := 6) hts (fun w hw => by cases hw) (hts _ ia_IO.1)
  obtain ⟨c12, i12, k12⟩ := u_known (C := "java/lang/UnsupportedOperationException") (T := T_UO) (N := 0) (n := 6) hts (fun w hw => by cases hw) (hts _ ia_UO.1)
  obtain ⟨dC, dI, hK⟩ : ∃ (dC : Nat → ClassId) (dI : Nat → Nat → Nat), ∀ (k : Nat) (q : vw_C), mj_cl[k]? = some q → u_Kn s q.1 q.2.1 q.2.2 (dC k) (dI k) := by
    refine ⟨fun k => match k with | 0 => c0 | 1 => c1 | 2 => c2 | 3 => c3 | 4 => c4 | 5 => c5 | 6 => c6 | 7 => c7 | 8 => c8 | 9 => c9 | 10 => c10 | 11 => c11 | _ => c12, fun k => match k with | 0 => i0 | 1 => i1 | 2 => i2 | 3 => i3 | 4 => i4 | 5 => i5 | 6 => i6 | 7 => i7 | 8 => i8 | 9 => i9 | 10 => i10 | 11 => i11 | _ => i12, ?_⟩
    intro k q hq
    match k, hq with
    | 0, hq => cases hq; exact k0
    | 1, hq => cases hq; exact k1
    | 2, hq => cases hq; exact k2
    | 3, hq => cases hq; exact k3
    | 4, hq => cases hq; exact k4
    | 5, hq => cases hq; exact k5
    | 6, hq => cases hq; exact k6
    | 7, hq => cases hq; exact k7
    | 8, hq => cases hq; exact k8
    | 9, hq => cases hq; exact k9
    | 10, hq => cases hq; exact k10
    | 11, hq => cases hq; exact k11
    | 12, hq => cases hq; exact k12
    | k + 13, hq => simp [mj_cl] at hq
  refine ⟨((dC, dI), cI, cL, cD), (s.heap.size, fun k => if k = 0 then t else b), rfl, rfl, ⟨hK, ?_⟩, fun w hw a => mj_warm hw.2 (State.WarmedH.refl s) (hts w hw.1), ?_⟩
  · intro k q hq
    match k, hq with
    | 0, hq => cases hq; exact ⟨aI, nIx⟩
    | 1, hq => cases hq; exact ⟨aL, nLx⟩
    | 2, hq => cases hq; exact ⟨aD, nDx⟩
    | k + 3, hq => simp at hq
  · refine ⟨vx_Zqof (hts _ (show (Cond.laysStatic "java/lang/Throwable" "UNASSIGNED_STACK" "[Ljava/lang/StackTraceElement;") ∈ lw_tbl from List.mem_append_right _ (List.mem_append_right _ (List.mem_append_left _ (List.mem_of_getElem? (i := 0) rfl))))) (hts _ in_Th.1) (hs (Cond.isRef (.static Bundle.tN "UNASSIGNED_STACK" Bundle.steD)) (by decide +kernel)) hA, vx_Zqof (hts _ (show (Cond.laysStatic "java/lang/Throwable" "SUPPRESSED_SENTINEL" "Ljava/util/List;") ∈ lw_tbl from List.mem_append_right _ (List.mem_append_right _ (List.mem_append_left _ (List.mem_of_getElem? (i := 2) rfl))))) (hts _ in_Th.1) (hs (Cond.isRef (.static Bundle.tN "SUPPRESSED_SENTINEL" Bundle.listD)) (by decide +kernel)) hA, va_Zref (hts _ (show (Cond.laysStatic "RasterForge" "MAGIC" "[I") ∈ lw_tbl from List.mem_append_right _ (List.mem_append_right _ (List.mem_append_left _ (List.mem_of_getElem? (i := 182) rfl))))) (hts _ in_RF.1) ht hA, hX, htl, ?_⟩
    intro q hq
    unfold mj_ncs at hq
    rcases List.mem_cons.mp hq with e | hq
    · subst e
      exact va_Nc.of (hs (Cond.not (.castable "java/lang/IllegalStateException" "java/lang/IllegalArgumentException")) (by decide +kernel))
    · rcases List.mem_cons.mp hq with e | hq
      · subst e
        exact va_Nc.of (hs (Cond.not (.castable "java/lang/IndexOutOfBoundsException" "java/lang/IllegalArgumentException")) (by decide +kernel))
      · rcases List.mem_cons.mp hq with e | hq
        · subst e
          exact va_Nc.of (hs (Cond.not (.castable "java/lang/UnsupportedOperationException" "java/lang/IllegalArgumentException")) (by decide +kernel))
        · cases hq
set_option maxRecDepth 100000 in
set_option maxHeartbeats 4000000 in
theorem whole_start {p : Program} {e : Env} {s : State} {m : MethodId} {below : List Frame} {meth : Method} {c : Code} (l : Launch) {b L : Nat} {xs : Nat → Int32} (hF : l.stackTraces = false) (hnm : meth.name = "law") (hex : c.exceptionTable.toList = []) (hL : L ≤ 2560) (C0 : lw_At p s m meth c b L xs) : W p l e room_1 s m #[Value.ref b] below meth c s.heap [] 0 0 (lw_Z below #[Value.ref b] s) (entryFrame m ([Value.ref b] : List Value).toArray 9) := by
  obtain ⟨hx, hb, hr, hml, hown, hts, hX, hbl, hlocks, hgv⟩ := id C0
  obtain ⟨G, o, o1, o2, hK⟩ := lw_K hts hgv
  have hl := lv_entry ([Value.ref b]) (n := 9) (Nat.le_of_ble_eq_true rfl)
  rw [lg_entry_eq]
  generalize (lg_sl ([Value.ref b]) ++ List.replicate (9 - (lg_sl ([Value.ref b])).length) Slot.unset).toArray = ls at hl ⊢
  have hl : lv_has ls 9 [(0, .ref b)] := hl
  have hLs : mj_L o M_La_law.2.2.1 [some (.retAddr 1), none, none, none, none, none, none, none, none] ls := by
    refine ⟨hl.1, hl.2.1, fun i v hi => ?_⟩
    match i, hi with
    | 0, hi =>
      cases hi
      show ls[0]? = some (.val (.ref (o.2 1)))
      rw [o2]
      exact hl.2.2 (0, .ref b) List.mem_cons_self
    | 1, hi => cases hi
    | 2, hi => cases hi
    | 3, hi => cases hi
    | 4, hi => cases hi
    | 5, hi => cases hi
    | 6, hi => cases hi
    | 7, hi => cases hi
    | 8, hi => cases hi
    | i + 9, hi => simp at hi
  have K := st_law (xs := xs) hL p l e room_1 s m #[Value.ref b] below meth c G o ⟨hx, hb, hml, hr, hown, hlocks, hnm, hK, Nat.le_refl _, Nat.le_refl _, hF, by rw [hex]; rfl, fun q hq => by cases hq; rw [o2, o1]; exact ⟨hX, hbl⟩⟩ s.heap [] 0 0 ⟨⟨o1.symm, fun i x hi => by simp at hi⟩, fun _ _ => rfl, fun q hq => by cases hq⟩ (Nat.le_of_ble_eq_true rfl) (Nat.le_of_ble_eq_true rfl) ls hLs
  refine mj_mono ?_ K
  rintro t ⟨oc, a1, a2, r, h, hq, hoc, -, -, hW, Lc, hsame, hLc⟩
  have hq : r = .inl (some (.int 1)) := hq
  subst hq
  have hoc : oc = .returned (some (.int 1)) := hoc
  subst hoc
  exact ⟨_, a1, a2, rfl, ⟨_, rfl⟩, hW, lw_new hsame (fun q hq => by have := hLc q hq; omega)⟩
set_option maxHeartbeats 4000000 in
theorem lw_walk (l : Launch) (hF : l.stackTraces = false) (b : Addr) (xs : List Int32) : MetFree l x (headSpec (Jvm.Cond.code x code maxLocals ret :: tables_1) room_1) (lw_P b xs) (fun _ _ _ _ _ => True) lw_Q := by
  refine MetFree.of_bodyS (code := code) (maxLocals := maxLocals) (ret := ret) (by decide) ?_ ?_
  · intro args s m h hn
    obtain ⟨meth, c, h1, h2, h3, h4, h5, h6, -, -⟩ := Cond.code_spec hn (atoms_spec (ws := Jvm.Cond.code x code maxLocals ret :: tables_1) h _ List.mem_cons_self)
    exact ⟨meth, c, h1, h2, h3, h4, h5, h6⟩
  · intro p e s m args below meth c s₁ B hml0 hP _
    obtain ⟨rfl, hx, hbd, hgv⟩ := hP
    obtain ⟨scr, harrAt, hlist, hof, hsmall⟩ := hx
    obtain ⟨hcb, hkn, -, -⟩ := State.arrayAt?_spec harrAt
    have hown : s.vm.findClass R_law = some m.cls := findClass_of_methodNamed B.named
    have hts0 : ∀ c ∈ (Jvm.Cond.code x code maxLocals ret :: tables_1), c.before #[Value.ref b] s = true := atoms_spec (ws := Jvm.Cond.code x code maxLocals ret :: tables_1) B.pre
    have hts : ∀ w ∈ lw_tbl, w.before #[Value.ref b] s = true := k2_hts_sels lw_privs (fun w hw => hts0 w (List.mem_cons_of_mem _ hw)) lw_privs_ok
    have hml : c.maxLocals = 9 := B.maxLocals_eq (hts0 _ List.mem_cons_self)
    have X₀ : Stand p l e room_1 s m #[Value.ref b] below meth c s₁ [] 0 0 := Stand.of_body B
    have hh0 : s₁.heap = s.heap := by rw [B.state]; rfl
    have hsz : scr.slots.size = xs.length := by rw [← Array.length_toList, hlist, List.length_map]
    have hval : ∀ j : Nat, j < xs.length → scr.slots[j]? = some (.int (xs.getD j 0)) := fun j hj => by
      rw [← Array.getElem?_toList, hlist]
      simp [hj]
    have hbl : b < s.heap.size := (Array.getElem?_eq_some_iff.mp hcb).1
    have hX : va_X b xs.length (fun j => xs.getD j 0) s s.heap := ⟨scr, hcb, hof, hkn, hsz, hval⟩
    have K : W p l e room_1 s m #[Value.ref b] below meth c s₁.heap [] 0 0 (lw_Z below #[Value.ref b] s) (entryFrame m ([Value.ref b] : List Value).toArray 9) := by
      rw [hh0]
      exact whole_start l hF (name_of_methodNamed B.named B.method).1 (by rw [Array.isEmpty_iff.mp (B.noHandlers (hts0 _ List.mem_cons_self))]) hbd ⟨B.exec, B.bytes, B.returns, hml, hown, hts, hX, hbl, B.notSynchronized, hgv⟩
    obtain ⟨t, a1, o, b1, b2, b3⟩ := K s₁ rfl X₀
    exact ⟨t, o, a1, b1, b2, b3⟩
theorem lw_pre_spec {args : Array Value} {s : State} (h : (Jvm.Cond.and given_1 narrow_1).before args s = true) (hr : rest_1_c.before args s = true) : ∃ (b : Addr) (xs : List Int32), lw_P b xs args s := by
  have hs := flat_of_before _ h
  have hq := flat_of_before _ hr
  have hc : (Cond.count 1).before args s = true := hs _ (by decide +kernel)
  have harr : (Cond.arrayOf (.arg 0) .int).before args s = true := hs _ (by decide +kernel)
  have hle : (Cond.le (.length (.arg 0)) (.int 2560)).before args s = true := hs _ (by decide +kernel)
  have hlen : (Cond.isInt (.length (.arg 0))).before args s = true := hq _ (by decide +kernel)
  have hall : (Cond.all (.arg 0) (.isInt (.elem (.arg 0) (.index 0)))).before args s = true := hq _ (by decide +kernel)
  obtain ⟨b, xs, hb, hx⟩ := State.ints_of_pre rfl harr hlen hall
  have hsm : xs.length < 2 ^ 31 := hx.choose_spec.2.2.2
  have hev : (Term.length (.arg 0)).eval args s none [] s = some (.int xs.length.toInt32) := hx.length_eval hb
  have hv := Cond.le_ints hev (show (Term.int 2560).eval args s none [] s = some (.int 2560) from rfl)
  have hd : xs.length.toInt32 ≤ 2560 := by
    simpa [Cond.before, Cond.holds, hv] using hle
  have hN : xs.length ≤ 2560 := (Int32.ofNat_le_ofNat hsm (by decide)).mp (show Int32.ofNat xs.length ≤ Int32.ofNat 2560 from hd)
  exact ⟨b, xs, Cond.one_arg hc (show args[0]? = some (.ref b) from hb), hx, hN, h⟩
theorem lw_comes (l : Launch) (hF : l.stackTraces = false) : Comes l x (Jvm.Cond.code x code maxLocals ret :: tables_1) room_1 (fun tb e args s => Calls_1 tb e args s ∧ rest_1 tb e args s ∧ Pre_1 tb e args s)
    (fun _ _ args s o t => lw_Q args s o t) := by
  intro p e ha hc hk s m args below hf hfit hheap happ hpre
  obtain ⟨b, xs, hP⟩ := lw_pre_spec hpre.2.2 hpre.2.1
  obtain ⟨k, o, h1, h2, h3, hQ⟩ := lw_walk l hF b xs p e ha hc hk s m args below hf ((Spec.applies_iff_loose hf).mp happ).1 hP trivial
  exact ⟨k, o, h1, h2, h3, hQ⟩
theorem lw_frame {s t : State} {o : Outcome} {args : Array Value} (h : Framed s o t [] 601024 7293034) :
    Framed s o t (fieldLocs frame_1_writes args s ++ arrayLocs frame_1_arrays args s ++ staticLocs frame_1_statics s) 601024 7293034 := h
theorem lw_limb (L : Cond) (hL : ∀ (args : Array Value) (s t : State), L.after args s (.returned (some (.int 1))) t = true) :
    ArmFor flags0 classFile x code maxLocals ret World_1 tables_1 room_1 Calls_1 rest_1 Pre_1
      (fun tb e a s o t => postC L tb e a s o t ∧ Framed s o t (fieldLocs frame_1_writes a s ++ arrayLocs frame_1_arrays a s ++ staticLocs frame_1_statics s) 601024 7293034) := by
  intro l hfl _ _ p e ha hc hk s m args below hf hfit hheap happ hpre
  obtain ⟨k, o, h1, h2, h3, rfl, hF⟩ := lw_comes l (by unfold Launch.stackTraces; rw [hfl]; decide +kernel) p e ha hc hk s m args below hf hfit hheap happ hpre
  exact ⟨k, _, h1, h2, h3, hL args s _, lw_frame hF⟩
theorem i_vc : Claimed_1_1 ∧ Claimed_1_2 := ⟨lw_limb limb_1_1 (fun args s t => by simp [limb_1_1, Cond.after, Cond.holds, Cond.value]), lw_limb limb_1_2 (fun args s t => Cond.after_iff.mpr (by
  first | (rw [show limb_1_2 = Cond.eq .result (.int 1) from rfl, Cond.eq_ints (x := 1) (y := 1) rfl rfl]; simp; done) | (simp [limb_1_2, Cond.value, Term.eval]; done)))⟩

/-! kinds of objects, fields, new cells -/
/-- what is known of the kind ci: its words are given, its fields' types, their names are apart -/
def mj_ok (ci : Nat) (C : String) (T : u_T) (N : Nat) (ty : Nat → FieldType) : Prop := mj_cl[ci]? = some (C, T, N) ∧ (∀ w ∈ u_ws C T N, mj_in w) ∧ (∀ k, k < N → parseFieldDescriptor (T k).2.2.1 = some (ty k)) ∧ ∀ a, a < N → ∀ b, b < N → a ≠ b → (T a).2.1 ≠ (T b).2.1
theorem mj_R.one {G : mj_G} {o : mj_A} {h : mj_H} {H : Heap} (r : mj_R G o h H) {a : Nat} {x : mj_C} (hx : h[a]? = some x) : va_P G.1 mj_cl [(o.1 + a, mj_c G o x)] H := by
  intro k q hq
  match k, hq with
  | 0, hq => cases hq; exact r.get hx
  | k + 1, hq => simp at hq
section MJH
variable {M : mj_M} {Q : mj_E → mj_H → Prop} {d : mj_D} {kc ks pc : Nat} {L : List (Option Value)} {S : List Value} {h : mj_H}
theorem mj_get {ci N k a index : Nat} {C : String} {T : u_T} {ty : Nat → FieldType} {fs : List Value} {v : Value} (ok : mj_ok ci C T N ty) (hk : k < N) (hw : mj_in (.fieldLink M.1.cls index (T k).1 (T k).2.1 (T k).2.2.1)) (hdg : decode M.2.1 pc = .ok (.getfield index, 3)) (ha : h[a]? = some (.inr (ci, fs))) (hv : fs[k]? = some v)
    (kk : mj_W M Q d kc ks (pc + 3) L (v :: S) h) : mj_W M Q d kc ks pc L (.ref a :: S) h := by
  intro p l e R s m args below meth c G o X H locs cells slots hS hk1 hk2 ls hl
  exact va_get (D := G.1) (cl := mj_cl) (ci := ci) (v := mj_v o v) X.1 X.2.1 (Ts := u_ws C T N) (fun w hw' => X.2.2.2.2.2.2.2.1.2.1 w (ok.2.1 w hw') args) (fun _ z => z) X.2.2.2.2.1 X.2.2.2.2.2.2.2.1.1 (hS.1.one ha) 0 rfl ok.1 k hk (X.2.2.2.2.2.2.2.1.2.1 _ hw args) (fun _ z => z) (by rw [List.getElem?_map, hv]; rfl) hdg (kk p l e R s m args below meth c G o X H locs cells slots hS hk1 hk2 ls hl)
theorem mj_getN {ci N k a index : Nat} {C host : String} {T : u_T} {ty : Nat → FieldType} {fs : List Value} {v : Value} (ok : mj_ok ci C T N ty) (hk : k < N) (hw : mj_in (.fieldLinkNest M.1.cls index (T k).1 (T k).2.1 (T k).2.2.1 host)) (hdg : decode M.2.1 pc = .ok (.getfield index, 3)) (ha : h[a]? = some (.inr (ci, fs))) (hv : fs[k]? = some v)
    (kk : mj_W M Q d kc ks (pc + 3) L (v :: S) h) : mj_W M Q d kc ks pc L (.ref a :: S) h := by
  intro p l e R s m args below meth c G o X H locs cells slots hS hk1 hk2 ls hl
  exact va_getN (D := G.1) (cl := mj_cl) (ci := ci) (v := mj_v o v) X.1 X.2.1 (Ts := u_ws C T N) (fun w hw' => X.2.2.2.2.2.2.2.1.2.1 w (ok.2.1 w hw') args) (fun _ z => z) X.2.2.2.2.1 X.2.2.2.2.2.2.2.1.1 (hS.1.one ha) 0 rfl ok.1 k hk (X.2.2.2.2.2.2.2.1.2.1 _ hw args) (fun _ z => z) (by rw [List.getElem?_map, hv]; rfl) hdg (kk p l e R s m args below meth c G o X H locs cells slots hS hk1 hk2 ls hl)
theorem mj_putAt {G : mj_G} {o : mj_A} {a ci N k : Nat} {C : String} {T : u_T} {ty : Nat → FieldType} {fs : List Value} {v : Value} {H1 : Heap} {cell : Cell} {iS : Nat → Nat} (hc : mj_cl[ci]? = some (C, T, N)) (q2 : cell.cls = G.1.1 ci) (q3 : cell.vm = .none) (q4 : ∀ j, j < N → cell.slots[(G.1.2 ci) j]? = some (vp_V (fs.map (mj_v o)) j)) (hap : ∀ x y, x < N → y < N → x ≠ y → (G.1.2 ci) x ≠ (G.1.2 ci) y) (hk : k < N) (hl : k < fs.length) (e1 : H1[o.1 + a]? = some (cell.setSlot ((G.1.2 ci) k) (mj_v o v))) : va_at G.1 mj_cl (o.1 + a, mj_c G o (.inr (ci, fs.set k v))) H1 := by
  have h2 := t_OB.to (o := o.1 + a) (cC := G.1.1 ci) (N := N) (iS := G.1.2 ci) (H := H1) (V := updV (vp_V (fs.map (mj_v o))) k (mj_v o v)) (V' := vp_V ((fs.map (mj_v o)).set k (mj_v o v))) ⟨_, e1, q2, q3, t_set q4 hap hk _⟩ (fun j _ => vp_updV_set (by rw [List.length_map]; exact hl) _ j)
  refine ⟨_, hc, ?_⟩
  show t_OB _ _ _ _ _ (vp_V ((fs.set k v).map (mj_v o)))
  rw [List.map_set]
  exact h2
theorem mj_put {ci N k a index : Nat} {C : String} {T : u_T} {ty : Nat → FieldType} {fs : List Value} {v : Value} (ok : mj_ok ci C T N ty) (hk : k < N) (hw : mj_in (.fieldLink M.1.cls index (T k).1 (T k).2.1 (T k).2.2.1)) (hfin : (T k).2.2.2 = false) (hn : ∀ o, narrow (ty k) (mj_v o v) = mj_v o v) (hfit : ∀ o, fits (ty k) (mj_v o v) = true) (hl : k < fs.length) (hdg : decode M.2.1 pc = .ok (.putfield index, 3)) (ha : h[a]? = some (.inr (ci, fs)))
    (kk : mj_W M Q d kc ks (pc + 3) L S (h.set a (.inr (ci, fs.set k v)))) : mj_W M Q d kc ks pc L (v :: .ref a :: S) h := by
  intro p l e R s m args below meth c G o X H locs cells slots hS hk1 hk2 ls hll
  have hts : ∀ w ∈ u_ws C T N, w.before args s = true := fun w hw' => X.2.2.2.2.2.2.2.1.2.1 w (ok.2.1 w hw') args
  have hK := X.2.2.2.2.2.2.2.1.1
  have hap := va_apart (own := M.1.cls) (s := s) (args := args) hts (fun _ z => z) ty ok.2.2.1 ok.2.2.2 hK ok.1
  obtain ⟨r, hr1, cell, q1, q2, q3, q4⟩ := hS.1.get ha
  have hr : r = (C, T, N) := Option.some.inj (hr1.symm.trans ok.1)
  subst hr
  obtain ⟨hSl, hfc, kC, hkC, hkind⟩ := hK.1 ci _ ok.1
  obtain ⟨cf, kf, fi, f, hi, hsl⟩ := hSl k hk
  have hlay := hts _ (u_in_lay hk)
  unfold u_lay at hlay
  rw [if_neg (by rw [hfin]; decide)] at hlay
  have hst := (u_facts hfc hkC (u_lays hts (fun _ z => z) hk) hi).1
  have h6 := u_store hfc hkC hkind hlay hi (ok.2.2.1 k hk) (hn o) (hfit o)
  refine W.putK X.1 X.2.1 (f := f) ⟨X.2.2.2.2.1, X.2.2.2.2.2.2.2.1.2.1 _ hw args, ⟨_, _, _, hi⟩, hst⟩ (by rw [q2]; exact h6) q1 q3 (by rw [hsl]; exact k2_hasslot (q4 k hk)) rfl rfl hdg fun H' e1 e2 e3 => ?_
  rw [hsl] at e1 ⊢
  exact kk p l e R s m args below meth c G o X H' _ cells slots (hS.set ha e2 e3 (mj_putAt (iS := G.1.2 ci) (ty := ty) ok.1 q2 q3 q4 hap hk hl e1)) hk1 hk2 ls hll
theorem mj_putN {ci N k a index : Nat} {C host : String} {T : u_T} {ty : Nat → FieldType} {fs : List Value} {v : Value} (ok : mj_ok ci C T N ty) (hk : k < N) (hw : mj_in (.fieldLinkNest M.1.cls index (T k).1 (T k).2.1 (T k).2.2.1 host)) (hfin : (T k).2.2.2 = false) (hn : ∀ o, narrow (ty k) (mj_v o v) = mj_v o v) (hfit : ∀ o, fits (ty k) (mj_v o v) = true) (hl : k < fs.length) (hdg : decode M.2.1 pc = .ok (.putfield index, 3)) (ha : h[a]? = some (.inr (ci, fs)))
    (kk : mj_W M Q d kc ks (pc + 3) L S (h.set a (.inr (ci, fs.set k v)))) : mj_W M Q d kc ks pc L (v :: .ref a :: S) h := by
  intro p l e R s m args below meth c G o X H locs cells slots hS hk1 hk2 ls hll
  have hts : ∀ w ∈ u_ws C T N, w.before args s = true := fun w hw' => X.2.2.2.2.2.2.2.1.2.1 w (ok.2.1 w hw') args
  have hK := X.2.2.2.2.2.2.2.1.1
  have hap := va_apart (own := M.1.cls) (s := s) (args := args) hts (fun _ z => z) ty ok.2.2.1 ok.2.2.2 hK ok.1
  obtain ⟨r, hr1, cell, q1, q2, q3, q4⟩ := hS.1.get ha
  have hr : r = (C, T, N) := Option.some.inj (hr1.symm.trans ok.1)
  subst hr
  obtain ⟨hSl, hfc, kC, hkC, hkind⟩ := hK.1 ci _ ok.1
  obtain ⟨cf, kf, fi, f, hi, hsl⟩ := hSl k hk
  have hlay := hts _ (u_in_lay hk)
  unfold u_lay at hlay
  rw [if_neg (by rw [hfin]; decide)] at hlay
  have hst := (u_facts hfc hkC (u_lays hts (fun _ z => z) hk) hi).1
  have h6 := u_store hfc hkC hkind hlay hi (ok.2.2.1 k hk) (hn o) (hfit o)
  refine va_WputK X.1 X.2.1 (f := f) X.2.2.2.2.1 (X.2.2.2.2.2.2.2.1.2.1 _ hw args) hi hst (by rw [q2]; exact h6) q1 q3 (by rw [hsl]; exact k2_hasslot (q4 k hk)) rfl rfl hdg fun H' e1 e2 e3 => ?_
  rw [hsl] at e1 ⊢
  exact kk p l e R s m args below meth c G o X H' _ cells slots (hS.set ha e2 e3 (mj_putAt (iS := G.1.2 ci) (ty := ty) ok.1 q2 q3 q4 hap hk hl e1)) hk1 hk2 ls hll
theorem mj_putF {ci N k a index : Nat} {C : String} {T : u_T} {ty : Nat → FieldType} {fs : List Value} {v : Value} (ok : mj_ok ci C T N ty) (hk : k < N) (hw : mj_in (.fieldLink M.1.cls index (T k).1 (T k).2.1 (T k).2.2.1)) (hfin : (T k).2.2.2 = true) (hnm : M.1.name = "<init>") (hdecl : (T k).1 = M.1.cls) (hn : ∀ o, narrow (ty k) (mj_v o v) = mj_v o v) (hfit : ∀ o, fits (ty k) (mj_v o v) = true) (hl : k < fs.length) (hdg : decode M.2.1 pc = .ok (.putfield index, 3)) (ha : h[a]? = some (.inr (ci, fs)))
    (kk : mj_W M Q d kc ks (pc + 3) L S (h.set a (.inr (ci, fs.set k v)))) : mj_W M Q d kc ks pc L (v :: .ref a :: S) h := by
  intro p l e R s m args below meth c G o X H locs cells slots hS hk1 hk2 ls hll
  have hts : ∀ w ∈ u_ws C T N, w.before args s = true := fun w hw' => X.2.2.2.2.2.2.2.1.2.1 w (ok.2.1 w hw') args
  have hK := X.2.2.2.2.2.2.2.1.1
  have hown := X.2.2.2.2.1
  have hap := va_apart (own := M.1.cls) (s := s) (args := args) hts (fun _ z => z) ty ok.2.2.1 ok.2.2.2 hK ok.1
  obtain ⟨r, hr1, cell, q1, q2, q3, q4⟩ := hS.1.get ha
  have hr : r = (C, T, N) := Option.some.inj (hr1.symm.trans ok.1)
  subst hr
  obtain ⟨hSl, hfc, kC, hkC, hkind⟩ := hK.1 ci _ ok.1
  obtain ⟨cf, kf, fi, f, hi, hsl⟩ := hSl k hk
  have hlay := hts _ (u_in_lay hk)
  unfold u_lay at hlay
  rw [if_pos hfin] at hlay
  have hst := (u_facts hfc hkC (u_lays hts (fun _ z => z) hk) hi).1
  have hcf : m.cls = cf := by
    obtain ⟨_, _, c', _, _, _, -, -, hf', -, -, -, hown2, -⟩ := Cond.laysFinal_spec hlay
    have e1 : c' = cf := by have := hi.symm.trans hf'; simp at this; exact this.1.symm
    rw [hdecl] at hown2
    rw [← e1]; exact Option.some.inj (hown.symm.trans hown2)
  have h6 := u_fits hfc hkC hkind (Or.inr hlay) hi (ok.2.2.1 k hk) (hn o) (hfit o)
  refine W.putFinK X.1 X.2.1 hown (X.2.2.2.2.2.2.2.1.2.1 _ hw args) hi hst hcf (X.2.2.2.2.2.2.1.trans hnm) (by rw [q2]; exact h6) q1 q3 (by rw [hsl]; exact k2_hasslot (q4 k hk)) rfl rfl hdg fun H' e1 e2 e3 => ?_
  rw [hsl] at e1 ⊢
  exact kk p l e R s m args below meth c G o X H' _ cells slots (hS.set ha e2 e3 (mj_putAt (iS := G.1.2 ci) (ty := ty) ok.1 q2 q3 q4 hap hk hl e1)) hk1 hk2 ls hll
theorem mj_new {ci N index : Nat} {C : String} {T : u_T} {ty : Nat → FieldType} {fs : List Value} (ok : mj_ok ci C T N ty) (hcl : mj_in (.classLink M.1.cls index C)) (hinst : mj_in (.instantiable C N)) (hini : mj_in (.initialized C)) (hdg : decode M.2.1 pc = .ok (.new index, 3)) (hfs : ∀ j, j < N → defaultValue (ty j) = vp_V fs j) (hfo : ∀ o, fs.map (mj_v o) = fs)
    (kk : mj_W M Q d kc ks (pc + 3) L (.ref h.length :: S) (h ++ [.inr (ci, fs)])) : mj_W M Q d (kc + 1) (ks + N) pc L S h := by
  intro p l e R s m args below meth c G o X H locs cells slots hS hk1 hk2 ls hl
  have hts : ∀ w ∈ u_ws C T N, w.before args s = true := fun w hw' => X.2.2.2.2.2.2.2.1.2.1 w (ok.2.1 w hw') args
  have hT := X.2.2.2.2.2.2.2.1.2.1
  have hKn := X.2.2.2.2.2.2.2.1.1.1 ci _ ok.1
  have hz := hS.1.1
  refine W.newcK X.1 X.2.1 X.2.2.2.2.1 (hT _ hcl args) (hT _ hinst args) (hT _ hini args) rfl hdg (by omega) (by omega) hKn.2.1 rfl fun H1 kC hkC e1 z1 o1 => ?_
  rw [hz] at e1 ⊢
  refine kk p l e R s m args below meth c G o X H1 locs (cells + 1) (slots + N) (hS.push (by omega) o1 ⟨_, ok.1, ?_⟩) (by omega) (by omega) ls hl
  show t_OB _ _ _ _ _ (vp_V (fs.map (mj_v o)))
  rw [hfo]
  exact (u_born ty hts (fun _ z => z) hKn hkC e1 ok.2.2.1).to hfs
/-! the ends of a method -/
theorem mj_fin {p : Program} {l : Launch} {e : Env} {R : Room} {s : State} {m : MethodId} {args : Array Value} {below : List Frame} {meth : Method} {c : Code} {G : mj_G} {o : mj_A} {H : Heap} {locs : List Loc} {cells slots : Nat} {g : JFrame} {v : Option Value} (hQ : Q (.inl v) h) (hS : mj_S G o s h H locs) (h1 : cells ≤ R.cells) (h2 : slots ≤ R.slots)
    (k : W p l e R s m args below meth c H locs R.cells R.slots (MQ below (fun _ _ oc t => oc = .returned (v.map (mj_v o)) ∧ t.heap = H) args s R.cells R.slots (fun q => o.1 ≤ q)) g) : W p l e R s m args below meth c H locs cells slots (mj_Z G o Q below s R) g := by
  refine W.widen h1 h2 (mj_mono ?_ k)
  rintro t ⟨oc, a1, a2, ⟨a3, a4⟩, Lc, ⟨-, hW, hsame⟩, hf⟩
  exact ⟨oc, a1, a2, .inl v, h, hQ, a3, by rw [a4]; exact hS.1, fun q hq => by rw [a4]; exact hS.2.1 q hq, hW, Lc, hsame, hf⟩
theorem mj_iret {v : Int32} (hM : M.2.2.2.1 = some .int) (hdg : decode M.2.1 pc = .ok (.ireturn, 1)) (hQ : Q (.inl (some (.int v))) h) : mj_W M Q d kc ks pc L [.int v] h := by
  intro p l e R s m args below meth c G o X H locs cells slots hS hk1 hk2 ls hl
  exact mj_fin hQ hS (by omega) (by omega) (W.iret X.1 X.2.1 (X.2.2.2.1.trans hM) (fun t ht _ => ⟨rfl, ht⟩) hS.2.2 hdg X.2.2.2.2.2.1)
theorem mj_zret {v : Int32} (hM : M.2.2.2.1 = some .boolean) (hv : narrow .boolean (.int v) = .int v) (hdg : decode M.2.1 pc = .ok (.ireturn, 1)) (hQ : Q (.inl (some (.int v))) h) : mj_W M Q d kc ks pc L [.int v] h := by
  intro p l e R s m args below meth c G o X H locs cells slots hS hk1 hk2 ls hl
  exact mj_fin hQ hS (by omega) (by omega) (W.zret X.1 X.2.1 (X.2.2.2.1.trans hM) hv (fun t ht _ => ⟨rfl, ht⟩) hS.2.2 hdg X.2.2.2.2.2.1)
theorem mj_vret (hM : M.2.2.2.1 = none) (hdg : decode M.2.1 pc = .ok (.return_, 1)) (hQ : Q (.inl none) h) : mj_W M Q d kc ks pc L [] h := by
  intro p l e R s m args below meth c G o X H locs cells slots hS hk1 hk2 ls hl
  exact mj_fin hQ hS (by omega) (by omega) (W.vret X.1 X.2.1 (X.2.2.2.1.trans hM) (fun t ht _ => ⟨rfl, ht⟩) hS.2.2 hdg X.2.2.2.2.2.1)
theorem mj_dret {v : UInt64} (hM : M.2.2.2.1 = some .double) (hdg : decode M.2.1 pc = .ok (.dreturn, 1)) (hQ : Q (.inl (some (.double v))) h) : mj_W M Q d kc ks pc L [.double v] h := by
  intro p l e R s m args below meth c G o X H locs cells slots hS hk1 hk2 ls hl
  exact mj_fin hQ hS (by omega) (by omega) (W.dret X.1 X.2.1 (X.2.2.2.1.trans hM) (fun t ht _ => ⟨rfl, ht⟩) hS.2.2 hdg X.2.2.2.2.2.1)
theorem mj_lret {v : Int64} (hM : M.2.2.2.1 = some .long) (hdg : decode M.2.1 pc = .ok (.lreturn, 1)) (hQ : Q (.inl (some (.long v))) h) : mj_W M Q d kc ks pc L [.long v] h := by
  intro p l e R s m args below meth c G o X H locs cells slots hS hk1 hk2 ls hl
  exact mj_fin hQ hS (by omega) (by omega) (W.lret X.1 X.2.1 (X.2.2.2.1.trans hM) (fun t ht _ => ⟨rfl, ht⟩) hS.2.2 hdg X.2.2.2.2.2.1)
theorem mj_aret {a : Nat} {C : String} (hM : M.2.2.2.1 = some (.object C)) (hdg : decode M.2.1 pc = .ok (.areturn, 1)) (hQ : Q (.inl (some (.ref a))) h) : mj_W M Q d kc ks pc L [.ref a] h := by
  intro p l e R s m args below meth c G o X H locs cells slots hS hk1 hk2 ls hl
  exact mj_fin hQ hS (by omega) (by omega) (W.aret X.1 X.2.1 (X.2.2.2.1.trans hM) (Or.inl ⟨_, rfl⟩) (Or.inr ⟨_, rfl⟩) (fun t ht _ => ⟨rfl, ht⟩) hS.2.2 hdg X.2.2.2.2.2.1)
end MJH
/-! entry and calls -/
def mj_en : List Value → List (Option Value)
  | [] => []
  | v :: t => if v.category = 2 then some v :: none :: mj_en t else some v :: mj_en t
theorem mj_en_at {o : mj_A} : ∀ (As : List Value) (b : Nat) (rest : List (Option Value)), (∀ x ∈ rest, x = none) → ∀ (i : Nat) (v : Value), (mj_en As ++ rest)[i]? = some (some v) → (b + i, mj_v o v) ∈ lv_args b (As.map (mj_v o))
  | [], b, rest, hr, i, v, h => by
    have := hr _ (List.mem_of_getElem? h)
    cases this
  | w :: t, b, rest, hr, i, v, h => by
    simp only [List.map_cons, lv_args, mj_cat]
    by_cases hc : w.category = 2
    · rw [mj_en, if_pos hc] at h
      rw [if_pos hc]
      match i, h with
      | 0, h => cases h; exact List.mem_cons_self
      | 1, h => cases h
      | i + 2, h =>
        have h9 := mj_en_at (o := o) t (b + 2) rest hr i v h
        rw [show b + (i + 2) = b + 2 + i by omega]
        exact List.mem_cons_of_mem _ h9
    · rw [mj_en, if_neg hc] at h
      rw [if_neg hc]
      match i, h with
      | 0, h => cases h; exact List.mem_cons_self
      | i + 1, h =>
        have h9 := mj_en_at (o := o) t (b + 1) rest hr i v h
        rw [show b + (i + 1) = b + 1 + i by omega]
        exact List.mem_cons_of_mem _ h9
theorem mj_sl_len (o : mj_A) (As : List Value) : (lg_sl (As.map (mj_v o))).length = (mj_en As).length := by
  induction As with
  | nil => rfl
  | cons w t ih =>
    simp only [lg_sl, List.map_cons, List.flatMap_cons, List.length_append, mj_cat] at ih ⊢
    rw [mj_en]
    by_cases hc : w.category = 2
    · rw [if_pos hc, if_pos hc]
      simp only [List.length_cons, List.length_nil]
      omega
    · rw [if_neg hc, if_neg hc]
      simp only [List.length_cons, List.length_nil]
      omega
theorem mj_hd0 {M : mj_M} (h : M.2.2.2.2 = []) : mj_hd M = Cond.code M.1 M.2.1 M.2.2.1 M.2.2.2.1 := by
  unfold mj_hd
  rw [h]
theorem mj_lo {o : mj_A} {M : mj_M} {As : List Value} {r : Nat} (hn : (mj_en As).length + r = M.2.2.1) : mj_L o M.2.2.1 (mj_en As ++ List.replicate r none) ((lg_sl (As.map (mj_v o)) ++ List.replicate (M.2.2.1 - (lg_sl (As.map (mj_v o))).length) Slot.unset).toArray) := by
  have hle : (lg_sl (As.map (mj_v o))).length ≤ M.2.2.1 := by rw [mj_sl_len]; omega
  have hl := lv_entry (As.map (mj_v o)) (n := M.2.2.1) hle
  refine ⟨hl.1, hl.2.1, fun i v hi => ?_⟩
  have h9 := mj_en_at (o := o) As 0 (List.replicate r none) (fun x hx => (List.mem_replicate.mp hx).2) i v hi
  rw [Nat.zero_add] at h9
  exact hl.2.2 _ h9
theorem mj_enter {M : mj_M} {d : mj_D} {k n : Nat} {As : List Value} {h : mj_H} {Q : mj_E → mj_H → Prop} {r : Nat} (hh : M.2.2.2.2 = []) (hdn : d.2.2 = none) (hp : plainName M.1.cls = true) (hn : (mj_en As).length + r = M.2.2.1) (hW : mj_W M Q d k n 0 (mj_en As ++ List.replicate r none) [] h) : mj_Met M d k n As h Q := by
  intro l G o hF
  rw [mj_hd0 hh]
  refine MetFree.of_bodyS (code := M.2.1) (maxLocals := M.2.2.1) (ret := M.2.2.2.1) hp ?_ ?_
  · intro args s m hb hnm
    obtain ⟨meth, c, h1, h2, h3, h4, h5, h6, -, -⟩ := Cond.code_spec hnm (atoms_spec (ws := [Cond.code M.1 M.2.1 M.2.2.1 M.2.2.2.1]) hb _ List.mem_cons_self)
    exact ⟨meth, c, h1, h2, h3, h4, h5, h6⟩
  · intro p e s m args below meth c s₁ B hml hP _
    obtain ⟨rfl, hR, hK⟩ := hP
    have hh0 : s₁.heap = s.heap := by rw [B.state]; rfl
    have hce := B.noHandlers (atoms_spec (ws := [Cond.code M.1 M.2.1 M.2.2.1 M.2.2.2.1]) B.pre _ List.mem_cons_self)
    have hct : c.exceptionTable.toList = [] := by
      have h9 : c.exceptionTable = #[] := Array.isEmpty_iff.mp hce
      rw [h9]
    have K := hW p l e (mj_rm d k n) s m (As.map (mj_v o)).toArray below meth c G o ⟨B.exec, B.bytes, hml, B.returns, findClass_of_methodNamed B.named, B.notSynchronized, (name_of_methodNamed B.named B.method).1, hK, Nat.le_refl _, Nat.le_refl _, hF, by rw [hct, hh]; rfl, fun q hq => by rw [hdn] at hq; cases hq⟩ s.heap [] 0 0 ⟨hR, fun _ _ => rfl, fun q hq => by cases hq⟩ (by rw [Nat.zero_add]; exact Nat.le_refl _) (by rw [Nat.zero_add]; exact Nat.le_refl _) _ (mj_lo hn)
    obtain ⟨t, a1, oc, b1, b2, b3⟩ := K s₁ hh0 (Stand.of_body B)
    refine ⟨t, oc, ?_, b1, b2, b3⟩
    rw [lg_entry_eq]
    exact a1
theorem mj_K.moved {G : mj_G} {o : mj_A} {s U : State} (h : mj_K G o s) (hW : s.WarmedH U.vm) (hh : ∀ q : Nat, q < o.1 → U.heap[q]? = s.heap[q]?) : mj_K G o U := ⟨va_K.moved hW.alike h.1, h.2.1.moved hW, mj_O.moved h.2.2 hW hh⟩
def mj_Qc (G : mj_G) (o : mj_A) (Q : mj_E → mj_H → Prop) : Array Value → State → Outcome → State → Prop := fun _ st oc t => ∃ (v : Option Value) (h : mj_H), Q (.inl v) h ∧ oc = .returned (v.map (mj_v o)) ∧ mj_R G o h t.heap ∧ ∀ q : Nat, q < o.1 → t.heap[q]? = st.heap[q]?
theorem mj_Met.met {M : mj_M} {d : mj_D} {k n : Nat} {As : List Value} {h : mj_H} {Q : mj_E → mj_H → Prop} (hM : mj_Met M d k n As h Q) (hh : M.2.2.2.2 = []) (hnt : ∀ a h', ¬ Q (.inr a) h') (l : Launch) (G : mj_G) (o : mj_A) (hF : mj_F l) : Met l M.1 [Cond.code M.1 M.2.1 M.2.2.1 M.2.2.2.1] (mj_rm d k n) (mj_P G o As h) (mj_Qc G o Q) k n (fun q => o.1 ≤ q) := by
  have hM9 := hM l G o hF
  rw [mj_hd0 hh] at hM9
  intro p e h1 h2 h3 s m args below h4 h5 h6 h7
  obtain ⟨j, oc, a1, a2, a3, r, h', hq, ho, hR, hb, hW, L, hsame, hL⟩ := hM9 p e h1 h2 h3 s m args below h4 h5 h6 h7
  cases r with
  | inr a => exact absurd hq (hnt a h')
  | inl v =>
    have ho' : oc = .returned (v.map (mj_v o)) := ho
    exact ⟨j, oc, a1, a2, a3, ⟨v, h', hq, ho', hR, hb⟩, L, ⟨⟨_, ho'⟩, hW, hsame⟩, hL⟩
theorem mj_blind {G : mj_G} {o : mj_A} {As : List Value} {h : mj_H} : FrameBlind (mj_P G o As h) := by
  intro a U g mk hP
  obtain ⟨h1, h2, h3⟩ := hP
  exact ⟨h1, h2, h3.moved (State.WarmedH.refl U) (fun _ _ => rfl)⟩
section MJC
variable {M M' : mj_M} {Q Qc : mj_E → mj_H → Prop} {d d' : mj_D} {kc ks pc k' n' : Nat} {L : List (Option Value)} {S : List Value} {h : mj_H} {As : List Value} {index : Nat}
theorem mj_run {p : Program} {l : Launch} {e : Env} {R : Room} {s : State} {m : MethodId} {args : Array Value} {below : List Frame} {meth : Method} {c : Code} {G : mj_G} {o : mj_A} {H : Heap} {locs : List Loc} {cells slots : Nat} {st0 rest : List Value} {a : Array Value} {ls : Array Slot} {Z : State → Prop} (hr : va_Run p l e R s m args below meth c H locs cells slots k' n' (F0 m pc ls st0) rest (mj_Qc G o Qc a) (fun q => o.1 ≤ q)) (hS : mj_S G o s h H locs)
    (kk : ∀ (v : Option Value) (h' : mj_H) (H' : Heap) (locs' : List Loc), Qc (.inl v) h' → mj_S G o s h' H' locs' → W p l e R s m args below meth c H' locs' (cells + k') (slots + n') Z (F0 m (pc + 3) ls ((v.map (mj_v o)).toList ++ rest))) : W p l e R s m args below meth c H locs cells slots Z (F0 m pc ls st0) := by
  intro T hT X
  obtain ⟨v, st₀, t, T', Lc, h0, X', hL, e1, e2, ⟨v', h', hq, hv, hR, hold⟩, st⟩ := hr T hT X
  cases hv
  obtain ⟨t2, a1, b1⟩ := kk v' h' T'.heap (locs ++ Lc) hq ⟨by rw [e1]; exact hR, fun q hq' => by rw [e1, hold q hq', h0]; exact hS.2.1 q hq', fun q hq' => by
    rcases List.mem_append.mp hq' with z | z
    · exact hS.2.2 q z
    · exact hL q z⟩ T' rfl X'
  exact ⟨t2, st t2 a1, b1⟩
/-- what every call asks of the callee: its words, its size -/
def mj_cw (M' : mj_M) (n : Nat) : Prop := M'.2.2.2.2 = [] ∧ mj_in (Cond.code M'.1 M'.2.1 M'.2.2.1 M'.2.2.2.1) ∧ mj_in (.initialized M'.1.cls) ∧ (M'.1.cls ≠ "java/lang/invoke/MethodHandle" ∧ M'.1.cls ≠ "java/lang/invoke/VarHandle" ∧ (parseMethodDescriptor M'.1.desc).map (fun d => d.parameters.length) = some n)
theorem mj_cb {p : Program} {l : Launch} {R : Room} {s : State} {m : MethodId} {args : Array Value} {meth : Method} {c : Code} {G : mj_G} {o : mj_A} {n : Nat} (X : mj_X M G o d p l R s m meth c) (cw : mj_cw M' n) (hl : mj_in (.methodLink M.1.cls index M'.1)) (hd : d'.1 + 1 ≤ d.1 ∧ 19 + M'.2.2.1 + d'.2.1 ≤ d.2.1) : CallB R s args M.1.cls index M'.1 M'.2.1 M'.2.2.1 M'.2.2.2.1 [Cond.code M'.1 M'.2.1 M'.2.2.1 M'.2.2.2.1] (mj_rm d' k' n') k' n' n := by
  obtain ⟨-, c1, c2, c3⟩ := cw
  obtain ⟨hd1, hd2⟩ := hd
  have hT := X.2.2.2.2.2.2.2.1.2.1
  have hf := X.2.2.2.2.2.2.2.2.1
  have hlo := X.2.2.2.2.2.2.2.2.2.1
  refine callB_of (Ts := [Cond.code M'.1 M'.2.1 M'.2.2.1 M'.2.2.2.1]) n (fun w hw => ?_) (fun w hw => ⟨hw, ?_⟩) rfl rfl rfl (hT _ c2 args) (hT _ hl args) c3 ⟨?_, ?_⟩
  · rw [List.mem_singleton.mp hw]; exact hT _ c1 args
  · rw [List.mem_singleton.mp hw]; exact Or.inl rfl
  · show d'.1 + 1 ≤ R.frames
    omega
  · show 8 + (M'.2.2.1 + 11) + d'.2.1 ≤ R.locals
    omega
theorem mj_cn {p : Program} {l : Launch} {R : Room} {s : State} {m : MethodId} {args : Array Value} {meth : Method} {c : Code} {G : mj_G} {o : mj_A} {n : Nat} {host : String} (X : mj_X M G o d p l R s m meth c) (cw : mj_cw M' n) (hl : mj_in (.methodLinkNest M.1.cls index M'.1 host)) (hd : d'.1 + 1 ≤ d.1 ∧ 19 + M'.2.2.1 + d'.2.1 ≤ d.2.1) : va_CN R s args M.1.cls index M'.1 host M'.2.1 M'.2.2.1 M'.2.2.2.1 [Cond.code M'.1 M'.2.1 M'.2.2.1 M'.2.2.2.1] (mj_rm d' k' n') k' n' n := by
  obtain ⟨-, c1, c2, c3⟩ := cw
  obtain ⟨hd1, hd2⟩ := hd
  have hT := X.2.2.2.2.2.2.2.1.2.1
  have hf := X.2.2.2.2.2.2.2.2.1
  have hlo := X.2.2.2.2.2.2.2.2.2.1
  refine va_cnB (Ts := [Cond.code M'.1 M'.2.1 M'.2.2.1 M'.2.2.2.1]) n (fun w hw => ?_) (fun w hw => ⟨hw, ?_⟩) rfl rfl rfl (va_Nw.of rfl (hT _ hl args)) (hT _ c2 args) c3 ⟨?_, ?_⟩
  · rw [List.mem_singleton.mp hw]; exact hT _ c1 args
  · rw [List.mem_singleton.mp hw]; exact Or.inl rfl
  · show d'.1 + 1 ≤ R.frames
    omega
  · show 8 + (M'.2.2.1 + 11) + d'.2.1 ≤ R.locals
    omega
def mj_rw (S : List Value) : Prop := (S.map fun v => v.category).sum ≤ 8
theorem mj_rw.of {m : MethodId} {ls : Array Slot} {pc : Nat} {st : List Value} (o : mj_A) (hs : mj_rw S) : 2 * (F0 m pc ls st).monitorRoom + ((S.map (mj_v o)).map fun v => v.category).sum ≤ 8 := by
  refine lv_room ?_
  rw [List.map_map]
  have e9 : ((fun v : Value => v.category) ∘ mj_v o) = fun v : Value => v.category := by
    funext v
    exact mj_cat o v
  rw [e9]
  exact hs
theorem mj_rev (o : mj_A) (As S : List Value) : (As.reverse ++ S).map (mj_v o) = (As.map (mj_v o)).reverse ++ S.map (mj_v o) := by
  rw [List.map_append, List.map_reverse]
theorem mj_pre {p : Program} {l : Launch} {R : Room} {s : State} {m : MethodId} {meth : Method} {c : Code} {G : mj_G} {o : mj_A} {H : Heap} {locs : List Loc} (X : mj_X M G o d p l R s m meth c) (hS : mj_S G o s h H locs) (U : State) (hU : U.heap = H) (hW : s.WarmedH U.vm) : mj_P G o As h (As.map (mj_v o)).toArray U :=
  ⟨rfl, by rw [hU]; exact hS.1, X.2.2.2.2.2.2.2.1.moved hW (fun q hq => by rw [hU]; exact hS.2.1 q hq)⟩
theorem mj_invS {n : Nat} (hdg : decode M.2.1 pc = .ok (.invokestatic index, 3)) (cw : mj_cw M' n) (hl : mj_in (.methodLink M.1.cls index M'.1)) (hst : mj_in (.static M'.1)) (hM : mj_Met M' d' k' n' As h Qc) (hnt : ∀ a h', ¬ Qc (.inr a) h') (hd : d'.1 + 1 ≤ d.1 ∧ 19 + M'.2.2.1 + d'.2.1 ≤ d.2.1) (hn : As.length = n) (hr : mj_rw S) {S0 : List Value} (hS0 : S0 = As.reverse ++ S)
    (kk : ∀ (v : Option Value) (h' : mj_H), Qc (.inl v) h' → mj_W M Q d kc ks (pc + 3) L (v.toList ++ S) h') : mj_W M Q d (kc + k') (ks + n') pc L S0 h := by
  subst hS0
  intro p l e R s m args below meth c G o X H locs cells slots hS hk1 hk2 ls hl0
  have hT := X.2.2.2.2.2.2.2.1.2.1
  refine mj_run (a := (As.map (mj_v o)).toArray) (Qc := Qc) (rest := S.map (mj_v o)) (va_runS (Ts := []) (n := n) ⟨X.1, X.2.1, X.2.2.1, X.2.2.2.2.1, fun w hw => by cases hw⟩ (hM.met cw.1 hnt l G o X.2.2.2.2.2.2.2.2.2.2.1) ⟨mj_cb X cw hl hd, hT _ hst args⟩ ⟨mj_blind, fun U hU hW => mj_pre X hS U hU hW⟩ rfl (by rw [List.length_map]; exact hn) hl0.1 (mj_rev o As S) (hr.of o) hdg ⟨by omega, by omega⟩) hS ?_
  intro v h' H' locs' hq hS'
  have hk := kk v h' hq p l e R s m args below meth c G o X H' locs' (cells + k') (slots + n') hS' (by omega) (by omega) ls hl0
  cases v with
  | none => exact hk
  | some w => exact hk
theorem mj_invSN {n : Nat} {host : String} (hdg : decode M.2.1 pc = .ok (.invokestatic index, 3)) (cw : mj_cw M' n) (hl : mj_in (.methodLinkNest M.1.cls index M'.1 host)) (hst : mj_in (.static M'.1)) (hM : mj_Met M' d' k' n' As h Qc) (hnt : ∀ a h', ¬ Qc (.inr a) h') (hd : d'.1 + 1 ≤ d.1 ∧ 19 + M'.2.2.1 + d'.2.1 ≤ d.2.1) (hn : As.length = n) (hr : mj_rw S) {S0 : List Value} (hS0 : S0 = As.reverse ++ S)
    (kk : ∀ (v : Option Value) (h' : mj_H), Qc (.inl v) h' → mj_W M Q d kc ks (pc + 3) L (v.toList ++ S) h') : mj_W M Q d (kc + k') (ks + n') pc L S0 h := by
  subst hS0
  intro p l e R s m args below meth c G o X H locs cells slots hS hk1 hk2 ls hl0
  have hT := X.2.2.2.2.2.2.2.1.2.1
  refine mj_run (a := (As.map (mj_v o)).toArray) (Qc := Qc) (rest := S.map (mj_v o)) (va_runSN (Ts := []) (n := n) ⟨X.1, X.2.1, X.2.2.1, X.2.2.2.2.1, fun w hw => by cases hw⟩ (hM.met cw.1 hnt l G o X.2.2.2.2.2.2.2.2.2.2.1) ⟨mj_cn X cw hl hd, hT _ hst args, trivial⟩ ⟨mj_blind, fun U hU hW => mj_pre X hS U hU hW⟩ rfl (by rw [List.length_map]; exact hn) hl0.1 (mj_rev o As S) (hr.of o) hdg ⟨by omega, by omega⟩) hS ?_
  intro v h' H' locs' hq hS'
  have hk := kk v h' hq p l e R s m args below meth c G o X H' locs' (cells + k') (slots + n') hS' (by omega) (by omega) ls hl0
  cases v with
  | none => exact hk
  | some w => exact hk
theorem mj_recv {G : mj_G} {o : mj_A} {a ci N : Nat} {s : State} {H : Heap} {locs : List Loc} {C : String} {T : u_T} {fs : List Value} (hK : mj_K G o s) (hS : mj_S G o s h H locs) (hc : mj_cl[ci]? = some (C, T, N)) (ha : h[a]? = some (.inr (ci, fs))) : ∃ cellB : Cell, H[o.1 + a]? = some cellB ∧ cellB.vm.isStatics = false ∧ s.vm.findClass C = some cellB.cls :=
  va_recv (q0 := 0) hK.1 (hS.1.one ha) hc rfl
theorem mj_revR (o : mj_A) (a : Nat) (As S : List Value) : (As.reverse ++ .ref a :: S).map (mj_v o) = (As.map (mj_v o)).reverse ++ .ref (o.1 + a) :: S.map (mj_v o) := by
  rw [List.map_append, List.map_reverse]
  rfl
theorem mj_invV {n a ci N : Nat} {T : u_T} {fs : List Value} (hdg : decode M.2.1 pc = .ok (.invokevirtual index, 3)) (cw : mj_cw M' n) (hl : mj_in (.methodLink M.1.cls index M'.1)) (hin : mj_in (.instanceMethod M'.1)) (hse : mj_in (.selects M'.1.cls M'.1 M'.1)) (hc : mj_cl[ci]? = some (M'.1.cls, T, N)) (ha : h[a]? = some (.inr (ci, fs))) (hM : mj_Met M' d' k' n' (.ref a :: As) h Qc) (hnt : ∀ a h', ¬ Qc (.inr a) h') (hd : d'.1 + 1 ≤ d.1 ∧ 19 + M'.2.2.1 + d'.2.1 ≤ d.2.1) (hn : As.length = n) (hr : mj_rw S) {S0 : List Value} (hS0 : S0 = As.reverse ++ .ref a :: S)
    (kk : ∀ (v : Option Value) (h' : mj_H), Qc (.inl v) h' → mj_W M Q d kc ks (pc + 3) L (v.toList ++ S) h') : mj_W M Q d (kc + k') (ks + n') pc L S0 h := by
  subst hS0
  intro p l e R s m args below meth c G o X H locs cells slots hS hk1 hk2 ls hl0
  have hT := X.2.2.2.2.2.2.2.1.2.1
  refine mj_run (a := ((Value.ref a :: As).map (mj_v o)).toArray) (Qc := Qc) (rest := S.map (mj_v o)) (va_runV (b := o.1 + a) (As := As.map (mj_v o)) (Ts := []) (n := n) (C := M'.1.cls) ⟨X.1, X.2.1, X.2.2.1, X.2.2.2.2.1, fun w hw => by cases hw⟩ (hM.met cw.1 hnt l G o X.2.2.2.2.2.2.2.2.2.2.1) ⟨mj_cb X cw hl hd, hT _ hin args, hT _ hse args⟩ ⟨mj_blind, mj_recv X.2.2.2.2.2.2.2.1 hS hc ha, fun U hU hW => mj_pre X hS U hU hW⟩ rfl (by rw [List.length_map]; exact hn) hl0.1 (mj_revR o a As S) (hr.of o) hdg ⟨by omega, by omega⟩) hS ?_
  intro v h' H' locs' hq hS'
  have hk := kk v h' hq p l e R s m args below meth c G o X H' locs' (cells + k') (slots + n') hS' (by omega) (by omega) ls hl0
  cases v with
  | none => exact hk
  | some w => exact hk
theorem mj_invVN {n a ci N : Nat} {T : u_T} {fs : List Value} {host : String} (hdg : decode M.2.1 pc = .ok (.invokevirtual index, 3)) (cw : mj_cw M' n) (hl : mj_in (.methodLinkNest M.1.cls index M'.1 host)) (hin : mj_in (.instanceMethod M'.1)) (hse : mj_in (.selects M'.1.cls M'.1 M'.1)) (hc : mj_cl[ci]? = some (M'.1.cls, T, N)) (ha : h[a]? = some (.inr (ci, fs))) (hM : mj_Met M' d' k' n' (.ref a :: As) h Qc) (hnt : ∀ a h', ¬ Qc (.inr a) h') (hd : d'.1 + 1 ≤ d.1 ∧ 19 + M'.2.2.1 + d'.2.1 ≤ d.2.1) (hn : As.length = n) (hr : mj_rw S) {S0 : List Value} (hS0 : S0 = As.reverse ++ .ref a :: S)
    (kk : ∀ (v : Option Value) (h' : mj_H), Qc (.inl v) h' → mj_W M Q d kc ks (pc + 3) L (v.toList ++ S) h') : mj_W M Q d (kc + k') (ks + n') pc L S0 h := by
  subst hS0
  intro p l e R s m args below meth c G o X H locs cells slots hS hk1 hk2 ls hl0
  have hT := X.2.2.2.2.2.2.2.1.2.1
  refine mj_run (a := ((Value.ref a :: As).map (mj_v o)).toArray) (Qc := Qc) (rest := S.map (mj_v o)) (va_runVN (b := o.1 + a) (As := As.map (mj_v o)) (Ts := []) (n := n) (C := M'.1.cls) ⟨X.1, X.2.1, X.2.2.1, X.2.2.2.2.1, fun w hw => by cases hw⟩ (hM.met cw.1 hnt l G o X.2.2.2.2.2.2.2.2.2.2.1) ⟨mj_cn X cw hl hd, hT _ hin args, hT _ hse args⟩ ⟨mj_blind, mj_recv X.2.2.2.2.2.2.2.1 hS hc ha, fun U hU hW => mj_pre X hS U hU hW⟩ rfl (by rw [List.length_map]; exact hn) hl0.1 (mj_revR o a As S) (hr.of o) hdg ⟨by omega, by omega⟩) hS ?_
  intro v h' H' locs' hq hS'
  have hk := kk v h' hq p l e R s m args below meth c G o X H' locs' (cells + k') (slots + n') hS' (by omega) (by omega) ls hl0
  cases v with
  | none => exact hk
  | some w => exact hk
theorem mj_invI {n a : Nat} (hret : M'.2.2.2.1 = none) (hnm : M'.1.name = "<init>") (hdg : decode M.2.1 pc = .ok (.invokespecial index, 3)) (cw : mj_cw M' n) (hl : mj_in (.methodLink M.1.cls index M'.1)) (hin : mj_in (.instanceMethod M'.1)) (hM : mj_Met M' d' k' n' (.ref a :: As) h Qc) (hnt : ∀ a h', ¬ Qc (.inr a) h') (hd : d'.1 + 1 ≤ d.1 ∧ 19 + M'.2.2.1 + d'.2.1 ≤ d.2.1) (hn : As.length = n) (hr : mj_rw S) {S0 : List Value} (hS0 : S0 = As.reverse ++ .ref a :: S)
    (kk : ∀ (v : Option Value) (h' : mj_H), Qc (.inl v) h' → mj_W M Q d kc ks (pc + 3) L (v.toList ++ S) h') : mj_W M Q d (kc + k') (ks + n') pc L S0 h := by
  subst hS0
  intro p l e R s m args below meth c G o X H locs cells slots hS hk1 hk2 ls hl0
  have hT := X.2.2.2.2.2.2.2.1.2.1
  have hcb := mj_cb (k' := k') (n' := n') (args := args) X cw hl hd
  have hmet := hM.met cw.1 hnt l G o X.2.2.2.2.2.2.2.2.2.2.1
  rw [hret] at hcb hmet
  refine mj_run (a := ((Value.ref a :: As).map (mj_v o)).toArray) (Qc := Qc) (rest := S.map (mj_v o)) (va_runI (b := o.1 + a) (As := As.map (mj_v o)) (Ts := []) (n := n) ⟨X.1, X.2.1, X.2.2.1, X.2.2.2.2.1, fun w hw => by cases hw⟩ hmet ⟨hcb, hnm, hT _ hin args⟩ ⟨mj_blind, fun U hU hW => mj_pre X hS U hU hW⟩ rfl (by rw [List.length_map]; exact hn) hl0.1 (mj_revR o a As S) (hr.of o) hdg ⟨by omega, by omega⟩) hS ?_
  intro v h' H' locs' hq hS'
  have hk := kk v h' hq p l e R s m args below meth c G o X H' locs' (cells + k') (slots + n') hS' (by omega) (by omega) ls hl0
  cases v with
  | none => exact hk
  | some w => exact hk
theorem mj_invIN {n a : Nat} {host : String} (hret : M'.2.2.2.1 = none) (hnm : M'.1.name = "<init>") (hdg : decode M.2.1 pc = .ok (.invokespecial index, 3)) (cw : mj_cw M' n) (hl : mj_in (.methodLinkNest M.1.cls index M'.1 host)) (hin : mj_in (.instanceMethod M'.1)) (hM : mj_Met M' d' k' n' (.ref a :: As) h Qc) (hnt : ∀ a h', ¬ Qc (.inr a) h') (hd : d'.1 + 1 ≤ d.1 ∧ 19 + M'.2.2.1 + d'.2.1 ≤ d.2.1) (hn : As.length = n) (hr : mj_rw S) {S0 : List Value} (hS0 : S0 = As.reverse ++ .ref a :: S)
    (kk : ∀ (v : Option Value) (h' : mj_H), Qc (.inl v) h' → mj_W M Q d kc ks (pc + 3) L (v.toList ++ S) h') : mj_W M Q d (kc + k') (ks + n') pc L S0 h := by
  subst hS0
  intro p l e R s m args below meth c G o X H locs cells slots hS hk1 hk2 ls hl0
  have hT := X.2.2.2.2.2.2.2.1.2.1
  have hcb := mj_cn (k' := k') (n' := n') (args := args) X cw hl hd
  have hmet := hM.met cw.1 hnt l G o X.2.2.2.2.2.2.2.2.2.2.1
  rw [hret] at hcb hmet
  refine mj_run (a := ((Value.ref a :: As).map (mj_v o)).toArray) (Qc := Qc) (rest := S.map (mj_v o)) (va_runIN (b := o.1 + a) (As := As.map (mj_v o)) (Ts := []) (n := n) ⟨X.1, X.2.1, X.2.2.1, X.2.2.2.2.1, fun w hw => by cases hw⟩ hmet ⟨hcb, hnm, hT _ hin args⟩ ⟨mj_blind, fun U hU hW => mj_pre X hS U hU hW⟩ rfl (by rw [List.length_map]; exact hn) hl0.1 (mj_revR o a As S) (hr.of o) hdg ⟨by omega, by omega⟩) hS ?_
  intro v h' H' locs' hq hS'
  have hk := kk v h' hq p l e R s m args below meth c G o X H' locs' (cells + k') (slots + n') hS' (by omega) (by omega) ls hl0
  cases v with
  | none => exact hk
  | some w => exact hk
theorem mj_objInit {a : Nat} (hdg : decode M.2.1 pc = .ok (.invokespecial index, 3)) (hl : mj_in (.methodLink M.1.cls index Lib.objectInit)) (hin : mj_in (.instanceMethod Lib.objectInit)) (hcd : mj_in (.code Lib.objectInit ⟨#[0xb1]⟩ 1 none)) (hd : 1 ≤ d.1 ∧ 20 ≤ d.2.1) (hr : mj_rw S) (kk : mj_W M Q d kc ks (pc + 3) L S h) : mj_W M Q d kc ks pc L (.ref a :: S) h := by
  intro p l e R s m args below meth c G o X H locs cells slots hS hk1 hk2 ls hl0
  have hT := X.2.2.2.2.2.2.2.1.2.1
  have hf := X.2.2.2.2.2.2.2.2.1
  have hlo := X.2.2.2.2.2.2.2.2.2.1
  have h9 := hr.of (m := m) (ls := ls) (pc := pc) (st := []) o
  refine W.objInit X.1 X.2.1 X.2.2.2.2.1 (hT _ hl args) (hT _ hin args) (hT _ hcd args) rfl (by rw [X.2.2.1]; exact hl0.1) rfl hdg (by omega) ?_ (kk p l e R s m args below meth c G o X H locs cells slots hS hk1 hk2 ls hl0)
  have h8 : 2 * (F0 m pc ls ((Value.ref a :: S).map (mj_v o))).monitorRoom + ((S.map (mj_v o)).map fun v => v.category).sum ≤ 8 := h9
  omega
end MJC

section MJN
variable {M : mj_M} {Q : mj_E → mj_H → Prop} {d : mj_D} {kc ks pc : Nat} {L : List (Option Value)} {S : List Value} {h : mj_H}
theorem mj_newi {x : Int32} {N : Nat} (hw : mj_in (.arrayClass .int)) (hdg : decode M.2.1 pc = .ok (.newarray .int, 2)) (hn : ¬ x < 0) (hN : x.toNatClampNeg = N) (hb : N * componentBytes (newarray.typeOf .int) ≤ 536870912) (kk : mj_W M Q d kc ks (pc + 2) L (.ref h.length :: S) (h ++ [.inl (N, .inl (fun _ => 0))])) : mj_W M Q d (kc + 1) (ks + N) pc L (.int x :: S) h := by
  intro p l e R s m args below meth c G o X H locs cells slots hS hk1 hk2 ls hl
  have hT := X.2.2.2.2.2.2.2.1.2.1
  have hz := hS.1.1
  have hca : s.vm.findClass ("[" ++ FieldType.int.toString) = some G.2.1 := (X.2.2.2.2.2.2.2.1.1.2 0 _ rfl).2
  refine va_newaK (atype := .int) (n := x) (N := N) (h := o.1 + h.length) X.1 X.2.1 (hT _ hw args) rfl hdg rfl hn hN hb (by omega) (by omega) hz fun H1 cA e1 z1 o1 hAr hNm => ?_
  cases hca.symm.trans hNm
  exact kk p l e R s m args below meth c G o X H1 locs (cells + 1) (slots + N) (hS.push (by omega) (fun q hq => o1 q (by omega)) e1) (by omega) (by omega) ls hl
theorem mj_newl {x : Int32} {N : Nat} (hw : mj_in (.arrayClass .long)) (hdg : decode M.2.1 pc = .ok (.newarray .long, 2)) (hn : ¬ x < 0) (hN : x.toNatClampNeg = N) (hb : N * componentBytes (newarray.typeOf .long) ≤ 536870912) (kk : mj_W M Q d kc ks (pc + 2) L (.ref h.length :: S) (h ++ [.inl (N, .inr (.inl (fun _ => 0)))])) : mj_W M Q d (kc + 1) (ks + N) pc L (.int x :: S) h := by
  intro p l e R s m args below meth c G o X H locs cells slots hS hk1 hk2 ls hl
  have hT := X.2.2.2.2.2.2.2.1.2.1
  have hz := hS.1.1
  have hca : s.vm.findClass ("[" ++ FieldType.long.toString) = some G.2.2.1 := (X.2.2.2.2.2.2.2.1.1.2 1 _ rfl).2
  refine va_newaK (atype := .long) (n := x) (N := N) (h := o.1 + h.length) X.1 X.2.1 (hT _ hw args) rfl hdg rfl hn hN hb (by omega) (by omega) hz fun H1 cA e1 z1 o1 hAr hNm => ?_
  cases hca.symm.trans hNm
  exact kk p l e R s m args below meth c G o X H1 locs (cells + 1) (slots + N) (hS.push (by omega) (fun q hq => o1 q (by omega)) e1) (by omega) (by omega) ls hl
theorem mj_newd {x : Int32} {N : Nat} (hw : mj_in (.arrayClass .double)) (hdg : decode M.2.1 pc = .ok (.newarray .double, 2)) (hn : ¬ x < 0) (hN : x.toNatClampNeg = N) (hb : N * componentBytes (newarray.typeOf .double) ≤ 536870912) (kk : mj_W M Q d kc ks (pc + 2) L (.ref h.length :: S) (h ++ [.inl (N, .inr (.inr (.inr (.inl (fun _ => 0)))))])) : mj_W M Q d (kc + 1) (ks + N) pc L (.int x :: S) h := by
  intro p l e R s m args below meth c G o X H locs cells slots hS hk1 hk2 ls hl
  have hT := X.2.2.2.2.2.2.2.1.2.1
  have hz := hS.1.1
  have hca : s.vm.findClass ("[" ++ FieldType.double.toString) = some G.2.2.2 := (X.2.2.2.2.2.2.2.1.1.2 2 _ rfl).2
  refine va_newaK (atype := .double) (n := x) (N := N) (h := o.1 + h.length) X.1 X.2.1 (hT _ hw args) rfl hdg rfl hn hN hb (by omega) (by omega) hz fun H1 cA e1 z1 o1 hAr hNm => ?_
  cases hca.symm.trans hNm
  exact kk p l e R s m args below meth c G o X H1 locs (cells + 1) (slots + N) (hS.push (by omega) (fun q hq => o1 q (by omega)) e1) (by omega) (by omega) ls hl
end MJN

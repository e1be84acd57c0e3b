set_option maxRecDepth 10000 in
set_option maxHeartbeats 2000000 in
theorem e_ro {g : mo_G} {n k : Nat} (hg : g.1 6 = nI n) (hn : n ≤ 384) (hk : k < n) : r_reordered (nI k) g = some (ro (g.2 9) n k, g) := by
  unfold r_reordered j_reordered_31 ro
  rw [hg, nI_1, show (2 : Int32) = nI 2 from rfl, pk_div (by omega) (by omega) (by omega)]
  by_cases q : k < (n + 1) / 2
  · rw [if_neg (nI_ge q (by omega)), if_pos q, pk_mul, og_t (vp_in_nI (by omega) (by decide)), nI_clamp (by omega)]
  · rw [if_pos (nI_le (by omega) (by omega)), if_neg q, pk_sub (by omega), pk_mul, nI_1, og_t (vp_in_nI (by omega) (by decide)), nI_clamp (by omega)]
set_option maxRecDepth 10000 in
set_option maxHeartbeats 2000000 in
theorem e_pr {g : mo_G} {n k : Nat} (hg : g.1 6 = nI n) (hn : n ≤ 384) (hk : k < n) : r_prepared (nI k) g = some (pr (g.2 9) n k, g) := by
  unfold r_prepared pr
  by_cases q : k = 0
  · rw [if_pos (by rw [q]; rfl), if_pos q, ← nI_0, e_ro hg hn (by omega), Option.bind_some]
  · rw [if_neg (nI_ne0 (by omega) (by omega)), if_neg q, e_ro hg hn hk, Option.bind_some]
    show ((r_reordered (nI k - nI 1) g).bind _) = _
    rw [pk_sub (by omega), e_ro hg hn (by omega), Option.bind_some]
def PR (d : by_B) (f : Nat → Int32) (n : Nat) : Prop := d.1 = n ∧ n ≤ 384 ∧ ∀ i, i < n → d.2.2 i = pr f n i
set_option maxRecDepth 10000 in
set_option maxHeartbeats 2000000 in
theorem PR.at {d : by_B} {f : Nat → Int32} {n i : Nat} (h : PR d f n) (hi : i < n) : by_get d (nI i) = pr f n i := by
  rw [by_get_at (by rw [h.1]; exact hi) (by rw [h.1]; have := h.2.1; omega), h.2.2 i hi]
set_option maxRecDepth 10000 in
set_option maxHeartbeats 2000000 in
theorem e_al10 {K : Int32 → Int32 → mo_G → Option (Prod Int32 mo_G)} {g : mo_G} {d : by_B} {n k : Nat} (hg : g.1 6 = nI n) (P : PR d (g.2 9) n) (hk : k < n) : ∀ (m e N : Nat), k < e → n ≤ m + e → e ≤ n → m < N → l_alike_10 K N (nI k) (nI e) (pr (g.2 9) n k) g = K (nI k) (nI (pa_alE d k m e)) g := by
  have hn := P.2.1
  intro m
  induction m with
  | zero =>
    intro e N he hm hle hN
    obtain ⟨N, rfl⟩ : ∃ m, N = m + 1 := ⟨N - 1, by omega⟩
    rw [l_alike_10, hg, if_pos (nI_le (by omega) (by omega))]
    rfl
  | succ m ih =>
    intro e N he hm hle hN
    obtain ⟨N, rfl⟩ : ∃ m, N = m + 1 := ⟨N - 1, by omega⟩
    rw [l_alike_10, hg]
    unfold pa_alE
    by_cases q : e < n
    · rw [if_neg (nI_ge q (by omega)), show (128 : Int32) = nI 128 from rfl, nI_add]
      by_cases q2 : e < k + 128
      · rw [if_neg (nI_ge q2 (by omega)), e_pr hg hn q, Option.bind_some]
        by_cases q3 : pr (g.2 9) n e = pr (g.2 9) n k
        · rw [if_pos q3, if_pos ⟨by rw [P.1]; exact q, by omega, by rw [P.at q, P.at hk]; exact q3⟩, nI_1]
          exact ih (e + 1) N (by omega) (by omega) (by omega) (by omega)
        · rw [if_neg q3, if_neg (fun z => q3 (by have := z.2.2; rw [P.at q, P.at hk] at this; exact this))]
      · rw [if_pos (nI_le (by omega) (by omega)), if_neg (fun z => q2 (by have := z.2.1; omega))]
    · rw [if_pos (nI_le (by omega) (by omega)), if_neg (fun z => q (by have := z.1; rw [P.1] at this; exact this))]
set_option maxRecDepth 10000 in
set_option maxHeartbeats 2000000 in
theorem e_alike {g : mo_G} {d : by_B} {n k : Nat} (hg : g.1 6 = nI n) (P : PR d (g.2 9) n) (hk : k < n) : r_alike (nI k) g = some (nI (pa_al d k), g) := by
  have hn := P.2.1
  unfold r_alike
  rw [e_pr hg hn hk, Option.bind_some, nI_1, e_al10 hg P hk d.1 (k + 1) 2000 (by omega) (by have := P.1; omega) (by omega) (by have := P.1; omega)]
  unfold j_alike_42 pa_al
  rw [pk_sub (by have := pa_alE_ge d k d.1 (k + 1); omega)]
set_option maxRecDepth 10000 in
set_option maxHeartbeats 2000000 in
theorem pa_alE_128 (d : by_B) (k : Nat) : ∀ (m e : Nat), e - k ≤ 128 → pa_alE d k m e - k ≤ 128 := by
  intro m
  induction m with
  | zero => intro e h; exact h
  | succ m ih =>
    intro e h
    unfold pa_alE
    split
    · rename_i q
      exact ih (e + 1) (by have := q.2.1; omega)
    · exact h
set_option maxRecDepth 10000 in
set_option maxHeartbeats 2000000 in
theorem pa_unE_sp (d : by_B) (k : Nat) : ∀ (m e : Nat), d.1 ≤ m + e → e ≤ d.1 → e - k ≤ 127 → pa_unE d k m e ≤ d.1 ∧ pa_unE d k m e - k ≤ 127 ∧ (pa_unE d k m e = d.1 ∨ 127 ≤ pa_unE d k m e - k ∨ 3 ≤ pa_al d (pa_unE d k m e)) := by
  intro m
  induction m with
  | zero => intro e h1 h2 h3; exact ⟨h2, h3, Or.inl (by show e = _; omega)⟩
  | succ m ih =>
    intro e h1 h2 h3
    unfold pa_unE
    by_cases q : pa_unC d k e
    · rw [if_pos q]
      exact ih (e + 1) (by omega) (by have := q.1; omega) (by have := q.2.1; omega)
    · rw [if_neg q]
      refine ⟨h2, h3, ?_⟩
      rcases Nat.lt_or_ge e d.1 with z | z
      · rcases Nat.lt_or_ge (e - k) 127 with z2 | z2
        · exact Or.inr (Or.inr (by rcases Nat.lt_or_ge (pa_al d e) 3 with z3 | z3; exact absurd ⟨z, z2, z3⟩ q; exact z3))
        · exact Or.inr (Or.inl z2)
      · exact Or.inl (by omega)
set_option maxRecDepth 10000 in
set_option maxHeartbeats 2000000 in
theorem e_pk73 {K : Int32 → Int32 → mo_G → Option mo_G} {g : mo_G} {d : by_B} {n k : Nat} (hg : g.1 6 = nI n) (P : PR d (g.2 9) n) : ∀ (m e N : Nat), k ≤ e → n ≤ m + e → e ≤ n → m < N → l_pack_73 K N (nI k) (nI e) g = K (nI k) (nI (pa_unE d k m e)) g := by
  have hn := P.2.1
  intro m
  induction m with
  | zero =>
    intro e N he hm hle hN
    obtain ⟨N, rfl⟩ : ∃ m, N = m + 1 := ⟨N - 1, by omega⟩
    rw [l_pack_73, hg, if_pos (nI_le (by omega) (by omega))]
    rfl
  | succ m ih =>
    intro e N he hm hle hN
    obtain ⟨N, rfl⟩ : ∃ m, N = m + 1 := ⟨N - 1, by omega⟩
    rw [l_pack_73, hg]
    unfold pa_unE
    by_cases q : e < n
    · rw [if_neg (nI_ge q (by omega)), show (127 : Int32) = nI 127 from rfl, nI_add]
      by_cases q2 : e < k + 127
      · have hal := pa_al_in d (pl := e) (by rw [P.1]; exact q)
        rw [if_neg (nI_ge q2 (by omega)), e_alike hg P q, Option.bind_some, show (3 : Int32) = nI 3 from rfl]
        by_cases q3 : pa_al d e < 3
        · rw [if_neg (nI_ge q3 (by omega)), if_pos ⟨by rw [P.1]; exact q, by omega, q3⟩, nI_1]
          exact ih (e + 1) N (by omega) (by omega) (by omega) (by omega)
        · rw [if_pos (nI_le (by omega) (by have := P.1; omega)), if_neg (fun z => q3 z.2.2)]
      · rw [if_pos (nI_le (by omega) (by omega)), if_neg (fun z => q2 (by have := z.2.1; omega))]
    · rw [if_pos (nI_le (by omega) (by omega)), if_neg (fun z => q (by have := z.1; rw [P.1] at this; exact this))]
def mo_pk (g : mo_G) (n : Nat) (f : Nat → Int32) : mo_G := (upd g.1 7 (nI n), mo_uA g.2 10 f)
set_option maxRecDepth 10000 in
set_option maxHeartbeats 2000000 in
theorem e_pk133 {K : Int32 → mo_G → Option mo_G} {g : mo_G} {d : by_B} {n E : Nat} (hg : g.1 6 = nI n) (P : PR d (g.2 9) n) (ok : by_ok d) (hE : E ≤ n) : ∀ (j i N : Nat) (b : by_B) (f : Nat → Int32), by_eq b f → i + j = E → b.1 + j ≤ 400 → j < N → ∃ f', by_eq (by_addP 400 d j i b) f' ∧ (by_addP 400 d j i b).1 = b.1 + j ∧ l_pack_133 K N (nI E) (nI i) (mo_pk g b.1 f) = K (nI E) (mo_pk g (b.1 + j) f') := by
  have hn := P.2.1
  intro j
  induction j with
  | zero =>
    intro i N b f hf hi hb hN
    obtain ⟨N, rfl⟩ : ∃ m, N = m + 1 := ⟨N - 1, by omega⟩
    refine ⟨f, hf, rfl, ?_⟩
    rw [l_pack_133, if_pos (nI_le (by omega) (by omega))]
    rfl
  | succ j ih =>
    intro i N b f hf hi hb hN
    obtain ⟨N, rfl⟩ : ∃ m, N = m + 1 := ⟨N - 1, by omega⟩
    have hin : i < n := by omega
    obtain ⟨f', h1, h2, h3⟩ := ih (i + 1) N (by_add 400 b (by_get d (nI i))) _ (by_eq_add hf (by omega)) (by omega) (by rw [by_add_1 (by omega)]; omega) (by omega)
    rw [by_add_1 (by omega)] at h2 h3
    refine ⟨f', h1, by show (by_addP 400 d j (i + 1) _).1 = _; rw [h2]; omega, ?_⟩
    have e1 : (mo_pk g b.1 f).1 6 = nI n := hg
    rw [l_pack_133, if_neg (nI_ge (by omega) (by omega)), e_pr e1 hn hin, Option.bind_some]
    show og (vp_in (nI b.1) 1700) (l_pack_133 K N (nI E) (nI i + 1) (upd (upd g.1 7 (nI b.1)) 7 (nI b.1 + 1), mo_uA (mo_uA g.2 10 f) 10 (upd f (nI b.1).toNatClampNeg (pr (g.2 9) n i)))) = _
    rw [og_t (vp_in_nI (by omega) (by decide)), nI_clamp (by omega), ux, uA, nI_1, nI_1]
    rw [P.at hin, show pr (g.2 9) n i &&& 255 = pr (g.2 9) n i by rw [← P.2.2 i hin]; exact ok.at2 (by rw [P.1]; exact hin), show b.1 + 1 + j = b.1 + (j + 1) by omega] at h3
    exact h3
set_option maxRecDepth 10000 in
set_option maxHeartbeats 2000000 in
theorem by_eq_cons {b : by_B} {f : Nat → Int32} {N : Nat} {x y : Int32} (h : by_eq b f) (hn : b.1 < N) (e : x &&& 255 = y) : by_eq (by_add N b x) (upd f b.1 y) := e ▸ by_eq_add h hn
set_option maxRecDepth 10000 in
set_option maxHeartbeats 2000000 in
theorem e_pk7 {K : mo_G → Option mo_G} {g : mo_G} {d : by_B} {n : Nat} (hg : g.1 6 = nI n) (P : PR d (g.2 9) n) (ok : by_ok d) : ∀ (m k N : Nat) (b : by_B) (f : Nat → Int32), by_eq b f → n ≤ m + k → k ≤ n → m < N → b.1 + (n - k) + (n - k + 126) / 127 ≤ 400 + (if 3 ≤ pa_al d k then 1 else 0) → b.1 ≤ 400 → ∃ f', by_eq (pa_run 400 d m k b) f' ∧ (pa_run 400 d m k b).1 ≤ 400 ∧ l_pack_7 K N (nI k) (mo_pk g b.1 f) = K (mo_pk g (pa_run 400 d m k b).1 f') := by
  have hn := P.2.1
  have hd := P.1
  intro m
  induction m with
  | zero =>
    intro k N b f hf hm hk hN hb h400
    obtain ⟨N, rfl⟩ : ∃ m, N = m + 1 := ⟨N - 1, by omega⟩
    refine ⟨f, hf, h400, ?_⟩
    rw [l_pack_7, show (mo_pk g b.1 f).1 6 = nI n from hg, if_pos (nI_le (by omega) (by omega))]
    rfl
  | succ m ih =>
    intro k N b f hf hm hk hN hb h400
    obtain ⟨N, rfl⟩ : ∃ m, N = m + 1 := ⟨N - 1, by omega⟩
    have e1 : (mo_pk g b.1 f).1 6 = nI n := hg
    have P1 : PR d ((mo_pk g b.1 f).2 9) n := P
    rw [l_pack_7, e1]
    unfold pa_run
    by_cases q : k < n
    · have hal := pa_al_in d (pl := k) (by omega)
      have hal2 : pa_al d k ≤ 128 := pa_alE_128 d k d.1 (k + 1) (by omega)
      rw [if_neg (nI_ge q (by omega)), e_alike e1 P1 q, Option.bind_some, if_pos (show k < d.1 by omega), show (3 : Int32) = nI 3 from rfl]
      by_cases q3 : 3 ≤ pa_al d k
      · rw [if_neg (nI_nlt q3 (by omega)), if_pos q3]
        rw [if_pos q3] at hb
        have x1 : (nI (pa_al d k) - 1) &&& 255 = nI (pa_al d k) - 1 := by
          rw [show (1 : Int32) = nI 1 from rfl, pk_sub (by omega), b255 (by omega)]
        have x2 : by_get d (nI k) &&& 255 = pr (g.2 9) n k := by
          rw [P.at q, ← P.2.2 k q]
          exact ok.at2 (by omega)
        obtain ⟨f', h1, h2, h3⟩ := ih (k + pa_al d k) N (by_add 400 (by_add 400 b (nI (pa_al d k) - 1)) (by_get d (nI k))) _ (by_eq_cons (by_eq_cons hf (by omega) x1) (by rw [by_add_1 (by omega)]; omega) x2) (by omega) (by omega) (by omega) (by rw [by_add_1 (by rw [by_add_1 (by omega)]; omega), by_add_1 (by omega)]; split <;> omega) (by rw [by_add_1 (by rw [by_add_1 (by omega)]; omega), by_add_1 (by omega)]; omega)
        rw [by_add_1 (by rw [by_add_1 (by omega)]; omega), by_add_1 (by omega)] at h3
        refine ⟨f', h1, h2, ?_⟩
        refine Eq.trans ?_ h3
        show og (vp_in (nI b.1) 1700) ((r_prepared (nI k) (upd g.1 7 (nI b.1), mo_uA (mo_uA g.2 10 f) 10 (upd f (nI b.1).toNatClampNeg (nI (pa_al d k) - 1)))).bind _) = _
        rw [og_t (vp_in_nI (by omega) (by decide)), nI_clamp (by omega), uA]
        rw [e_pr (n := n) (g := (upd g.1 7 (nI b.1), mo_uA g.2 10 (upd f b.1 (nI (pa_al d k) - 1)))) hg hn q, Option.bind_some]
        show og (vp_in (nI b.1 + 1) 1700) (l_pack_7 K N (nI k + nI (pa_al d k)) (upd (upd g.1 7 (nI b.1)) 7 (nI b.1 + nI 2), mo_uA (mo_uA g.2 10 (upd f b.1 (nI (pa_al d k) - 1))) 10 (upd (upd f b.1 (nI (pa_al d k) - 1)) (nI b.1 + 1).toNatClampNeg (pr (g.2 9) n k)))) = _
        rw [nI_1, og_t (vp_in_nI (by omega) (by decide)), nI_clamp (by omega), uA, ux, nI_add, nI_add]
        rfl
      · rw [if_pos (nI_lt (by omega) (by omega)), if_neg q3]
        rw [if_neg q3] at hb
        have e0 : pa_unE d k (d.1 + 1) k = pa_un d k := by
          rw [pa_unE, if_pos ⟨by omega, by omega, by omega⟩]
          rfl
        have hun := pa_un_in d (pl := k) (by omega)
        have hsp := pa_unE_sp d k d.1 (k + 1) (by omega) (by omega) (by omega)
        rw [show pa_unE d k d.1 (k + 1) = pa_un d k from rfl] at hsp
        have x1 : ((256 : Int32) - (nI (pa_un d k) - nI k)) = nI (256 - (pa_un d k - k)) := by
          rw [pk_sub (by omega), show (256 : Int32) = nI 256 from rfl, pk_sub (by omega)]
        have x2 : ((256 : Int32) - (nI (pa_un d k) - nI k)) &&& 255 = nI (256 - (pa_un d k - k)) := by
          rw [x1, b255 (by omega)]
        obtain ⟨f1, h1, h2, h3⟩ := e_pk133 (K := fun y10 g9 => (fun x1 g => l_pack_7 K N x1 g) y10 g9) hg P ok (E := pa_un d k) (by omega) (pa_un d k - k) k 2000 (by_add 400 b (256 - (nI (pa_un d k) - nI k))) _ (by_eq_cons hf (by omega) x2) (by omega) (by rw [by_add_1 (by omega)]; omega) (by omega)
        rw [by_add_1 (by omega)] at h2 h3
        obtain ⟨f', h4, h5, h6⟩ := ih (pa_un d k) N (by_addP 400 d (pa_un d k - k) k (by_add 400 b (256 - (nI (pa_un d k) - nI k)))) f1 h1 (by omega) (by omega) (by omega) (by rw [h2]; split <;> omega) (by rw [h2]; omega)
        rw [h2] at h6
        refine ⟨f', h4, h5, ?_⟩
        rw [e_pk73 e1 P1 (d.1 + 1) k 2000 (by omega) (by omega) (by omega) (by omega), e0]
        refine Eq.trans ?_ h6
        refine Eq.trans ?_ h3
        show og (vp_in (nI b.1) 1700) (l_pack_133 _ 2000 (nI (pa_un d k)) (nI k) (upd (upd g.1 7 (nI b.1)) 7 (nI b.1 + 1), mo_uA (mo_uA g.2 10 f) 10 (upd f (nI b.1).toNatClampNeg (256 - (nI (pa_un d k) - nI k))))) = _
        rw [og_t (vp_in_nI (by omega) (by decide)), nI_clamp (by omega), nI_1, x1, ux, uA]
        rfl
    · rw [if_pos (nI_le (by omega) (by omega)), if_neg (by omega)]
      exact ⟨f, hf, h400, rfl⟩
set_option maxRecDepth 10000 in
set_option maxHeartbeats 2000000 in
theorem by_ok_st (b2 : by_B) : ∀ (n k : Nat) (b : by_B), by_ok b → by_ok (pa_st b2 n k b)
  | 0, _, _, h => h
  | n + 1, k, b, h => by
    unfold pa_st
    split
    · exact by_ok_st b2 n _ _ (by_ok_add _ h)
    · exact h
set_option maxRecDepth 10000 in
set_option maxHeartbeats 2000000 in
theorem by_ok_dif : ∀ (k : Nat) (b : by_B), by_ok b → by_ok (pa_dif k b)
  | 0, _, h => h
  | k + 1, _, h => by_ok_dif k _ (by_ok_chg _ _ h)
set_option maxRecDepth 10000 in
set_option maxHeartbeats 2000000 in
theorem by_ok_ds (b2 b : by_B) : by_ok (pa_ds b2 b) := by_ok_dif _ _ (by_ok_st _ _ _ _ (by_ok_st _ _ _ _ (by_ok_0 _ _)))
set_option maxRecDepth 10000 in
set_option maxHeartbeats 2000000 in
theorem ro_eq {f f2 : Nat → Int32} {n k : Nat} (h : ∀ i, i < n → f i = f2 i) (hk : k < n) : ro f n k = ro f2 n k := by
  unfold ro
  apply h
  split <;> omega
set_option maxRecDepth 10000 in
set_option maxHeartbeats 2000000 in
theorem pr_eq {f f2 : Nat → Int32} {n k : Nat} (h : ∀ i, i < n → f i = f2 i) (hk : k < n) : pr f n k = pr f2 n k := by
  unfold pr
  rw [ro_eq h (k := 0) (by omega), ro_eq h hk, ro_eq h (k := k - 1) (by omega)]
set_option maxRecDepth 10000 in
set_option maxHeartbeats 2000000 in
theorem e_pack {g : mo_G} {b2 : by_B} (hg : g.1 6 = nI b2.1) (he : by_eq b2 (g.2 9)) (ok : by_ok b2) (h2 : b2.1 ≤ 384) (s t : by_B) : ∃ f', by_eq (pa_pk 400 b2 s t) f' ∧ (pa_pk 400 b2 s t).1 ≤ 400 ∧ r_pack g = some (mo_pk g (pa_pk 400 b2 s t).1 f') := by
  obtain ⟨h1, h3⟩ := pa_ds_at b2 s ok h2
  have P : PR (pa_ds b2 s) (g.2 9) b2.1 := ⟨h1, h2, fun i hi => by rw [h3 i hi]; exact pr_eq (fun i hi => (he i hi).symm) hi⟩
  have e2 := (pa_srt_at b2 s ok h2).1
  obtain ⟨f', h4, h5, h6⟩ := e_pk7 (K := fun g => some g) hg P (by_ok_ds _ _) (pa_srt b2 s).1 0 2000 (0, 0, t.2.2) (g.2 10) (fun k hk => absurd hk (Nat.not_lt_zero k)) (by omega) (by omega) (by omega) (by show 0 + _ + _ ≤ _; split <;> omega) (by show 0 ≤ 400; omega)
  refine ⟨f', h4, h5, ?_⟩
  refine Eq.trans ?_ h6
  show l_pack_7 _ 2000 0 (upd g.1 7 0, g.2) = l_pack_7 _ 2000 0 (upd g.1 7 0, mo_uA g.2 10 (g.2 10))
  rw [show mo_uA g.2 10 (g.2 10) = g.2 by funext i; unfold mo_uA; split; rename_i q; rw [q]; rfl]

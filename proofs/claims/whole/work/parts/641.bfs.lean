/-! COMING: the class's search, its mathematics -/
abbrev QE : Type := ST × Nat × Nat
def seenQ (QL : List QE) (n : Nat) (t : ST) : Prop := ∃ (j : Nat) (e : QE), j < n ∧ QL[j]? = some e ∧ e.1 = t
/-- processed: all hours from those ahead of sr, and the first p from that at sr -/
def bfsI (c : KC) (sky : Nat) (s0 : ST) (QL : List QE) (sr p : Nat) : Prop :=
  QL[0]? = some (s0, 0, 0) ∧ (∀ e, e ∈ QL → okS c e.1) ∧ (∀ (j k : Nat) (e f : QE), QL[j]? = some e → QL[k]? = some f → e.1 = f.1 → j = k) ∧
  (∀ (j : Nat) (t : ST) (a d : Nat), 0 < j → QL[j]? = some (t, a, d) → ∃ (u : QE) (pa : Nat), QL[a]? = some u ∧ (nx c sky u.1)[pa]? = some (d, t) ∧ (a < sr ∨ (a = sr ∧ pa < p)) ∧ a < j ∧ ∀ (b : Nat) (v : QE) (q : Nat) (x : Nat × ST), QL[b]? = some v → (b < a ∨ (b = a ∧ q < pa)) → (nx c sky v.1)[q]? = some x → seenQ QL j x.2) ∧
  (∀ (b : Nat) (v : QE) (q : Nat) (x : Nat × ST), QL[b]? = some v → (b < sr ∨ (b = sr ∧ q < p)) → (nx c sky v.1)[q]? = some x → seenQ QL QL.length x.2)
theorem seenQ_app {QL E : List QE} {n : Nat} {t : ST} (h : seenQ QL n t) : seenQ (QL ++ E) n t := by
  obtain ⟨j, e, h1, h2, h3⟩ := h
  exact ⟨j, e, h1, app_some h2, h3⟩
theorem seenQ_le {QL : List QE} {m n : Nat} {t : ST} (h : seenQ QL m t) (hmn : m ≤ n) : seenQ QL n t := by
  obtain ⟨j, e, h1, h2, h3⟩ := h
  exact ⟨j, e, by omega, h2, h3⟩
theorem bfs_start {c : KC} {sky : Nat} {s0 : ST} (hs : okS c s0) : bfsI c sky s0 [(s0, 0, 0)] 0 0 := by
  refine ⟨rfl, fun e he => by rw [List.mem_singleton.mp he]; exact hs, fun j k e f h1 h2 _ => ?_, fun j t a d hj h1 => ?_, fun b v q x _ h _ => by omega⟩
  · have a := (List.getElem?_eq_some_iff.mp h1).1
    have b := (List.getElem?_eq_some_iff.mp h2).1
    simp only [List.length_singleton] at a b
    omega
  · have a := (List.getElem?_eq_some_iff.mp h1).1
    simp only [List.length_singleton] at a
    omega
/-- one hour more, to a stand already met -/
theorem bfs_old {c : KC} {sky : Nat} {s0 : ST} {QL : List QE} {sr p : Nat} {u : QE} {x : Nat × ST} (h : bfsI c sky s0 QL sr p) (hu : QL[sr]? = some u) (hx : (nx c sky u.1)[p]? = some x) (hs : seenQ QL QL.length x.2) : bfsI c sky s0 QL sr (p + 1) := by
  obtain ⟨h1, h2, h3, h4, h5⟩ := h
  refine ⟨h1, h2, h3, fun j t a d hj hq => ?_, fun b v q y hb hlt hy => ?_⟩
  · obtain ⟨w, pa, g1, g2, g3, g4, g5⟩ := h4 j t a d hj hq
    exact ⟨w, pa, g1, g2, by omega, g4, g5⟩
  · by_cases z : b = sr ∧ q = p
    · obtain ⟨rfl, rfl⟩ := z
      rw [hu] at hb
      cases hb
      rw [hx] at hy
      cases hy
      exact hs
    · exact h5 b v q y hb (by omega) hy
/-- one hour more, to a stand not met yet -/
theorem bfs_new {c : KC} {sky : Nat} {s0 : ST} {QL : List QE} {sr p : Nat} {u : QE} {x : Nat × ST} (h : bfsI c sky s0 QL sr p) (hu : QL[sr]? = some u) (hx : (nx c sky u.1)[p]? = some x) (hs : ¬ seenQ QL QL.length x.2) : bfsI c sky s0 (QL ++ [(x.2, sr, x.1)]) sr (p + 1) := by
  have h' := h
  obtain ⟨h1, h2, h3, h4, h5⟩ := h
  have hul := (List.getElem?_eq_some_iff.mp hu).1
  have hxo : okS c x.2 := nx_ok (h2 u (List.mem_of_getElem? hu)) (List.mem_of_getElem? hx)
  have last : ∀ (j : Nat) (e : QE), (QL ++ [(x.2, sr, x.1)])[j]? = some e → (j < QL.length ∧ QL[j]? = some e) ∨ (j = QL.length ∧ e = (x.2, sr, x.1)) := by
    intro j e he
    by_cases w : j < QL.length
    · rw [List.getElem?_append_left w] at he; exact Or.inl ⟨w, he⟩
    · have hl := (List.getElem?_eq_some_iff.mp he).1
      rw [List.length_append] at hl
      simp only [List.length_singleton] at hl
      have hj : j = QL.length := by omega
      rw [List.getElem?_append_right (by omega), hj, Nat.sub_self] at he
      cases he
      exact Or.inr ⟨hj, rfl⟩
  refine ⟨app_some h1, fun e he => ?_, fun j k e f hj hk hef => ?_, fun j t a d hj hq => ?_, fun b v q y hb hlt hy => ?_⟩
  · rcases List.mem_append.mp he with w | w
    · exact h2 e w
    · rw [List.mem_singleton.mp w]; exact hxo
  · rcases last j e hj with ⟨a1, a2⟩ | ⟨a1, a2⟩ <;> rcases last k f hk with ⟨b1, b2⟩ | ⟨b1, b2⟩
    · exact h3 j k e f a2 b2 hef
    · exact absurd ⟨j, e, a1, a2, by rw [hef, b2]⟩ hs
    · exact absurd ⟨k, f, b1, b2, by rw [← hef, a2]⟩ hs
    · omega
  · rcases last j _ hq with ⟨a1, a2⟩ | ⟨a1, a2⟩
    · obtain ⟨w, pa, g1, g2, g3, g4, g5⟩ := h4 j t a d hj a2
      refine ⟨w, pa, app_some g1, g2, by omega, g4, fun b v q y hb hlt hy => ?_⟩
      have hal := (List.getElem?_eq_some_iff.mp g1).1
      rcases last b v hb with ⟨b1, b2⟩ | ⟨b1, b2⟩
      · exact seenQ_app (g5 b v q y b2 hlt hy)
      · omega
    · cases a2
      refine ⟨u, p, app_some hu, hx, by omega, by omega, fun b v q y hb hlt hy => ?_⟩
      rcases last b v hb with ⟨b1, b2⟩ | ⟨b1, b2⟩
      · rw [a1]; exact seenQ_app (h5 b v q y b2 hlt hy)
      · omega
  · rw [List.length_append]
    rcases last b v hb with ⟨b1, b2⟩ | ⟨b1, b2⟩
    · by_cases z : b = sr ∧ q = p
      · obtain ⟨rfl, rfl⟩ := z
        rw [hu] at b2
        cases b2
        rw [hx] at hy
        cases hy
        exact ⟨QL.length, (x.2, b, x.1), by simp, by simp, rfl⟩
      · exact seenQ_le (seenQ_app (h5 b v q y b2 (by omega) hy)) (by omega)
    · omega
/-- all hours of one are through -/
theorem bfs_next {c : KC} {sky : Nat} {s0 : ST} {QL : List QE} {sr : Nat} {u : QE} (h : bfsI c sky s0 QL sr (nx c sky u.1).length) (hu : QL[sr]? = some u) : bfsI c sky s0 QL (sr + 1) 0 := by
  obtain ⟨h1, h2, h3, h4, h5⟩ := h
  refine ⟨h1, h2, h3, fun j t a d hj hq => ?_, fun b v q y hb hlt hy => ?_⟩
  · obtain ⟨w, pa, g1, g2, g3, g4, g5⟩ := h4 j t a d hj hq
    exact ⟨w, pa, g1, g2, by omega, g4, g5⟩
  · by_cases z : b = sr
    · subst z
      rw [hu] at hb
      cases hb
      exact h5 b u q y hu (Or.inr ⟨rfl, (List.getElem?_eq_some_iff.mp hy).1⟩) hy
    · exact h5 b v q y hb (Or.inl (by omega)) hy
/-- deeds on the way back from one in the list -/
def rpQ (QL : List QE) : Nat → List Nat → Prop
  | j, [] => j = 0
  | j, d :: r => ∃ t a, QL[j]? = some (t, a, d) ∧ 0 < j ∧ rpQ QL a r
/-- deeds from one in the list on to the j-th -/
def fpQ (QL : List QE) (j : Nat) : Nat → List Nat → Prop
  | a, [] => a = j
  | a, d :: r => ∃ b t, QL[b]? = some (t, a, d) ∧ 0 < b ∧ fpQ QL j b r
theorem rp_ex {c : KC} {sky : Nat} {s0 : ST} {QL : List QE} {sr p : Nat} (h : bfsI c sky s0 QL sr p) : ∀ j, j < QL.length → ∃ R, rpQ QL j R ∧ R.length ≤ j := by
  intro j
  induction j using Nat.strongRecOn with
  | _ j ih =>
    intro hj
    by_cases q : j = 0
    · exact ⟨[], q, by show 0 ≤ j; omega⟩
    · have he : QL[j]? = some QL[j] := List.getElem?_eq_getElem hj
      generalize QL[j] = e at he
      obtain ⟨t, a, d⟩ := e
      obtain ⟨u, pa, -, -, -, haj, -⟩ := h.2.2.2.1 j t a d (by omega) he
      obtain ⟨R, r1, r2⟩ := ih a haj (by omega)
      exact ⟨d :: R, ⟨t, a, he, by omega, r1⟩, by rw [List.length_cons]; omega⟩
theorem rp_uniq {QL : List QE} : ∀ {R S : List Nat} {j : Nat}, rpQ QL j R → rpQ QL j S → R = S
  | [], [], _, _, _ => rfl
  | [], d :: S, j, h, ⟨t, a, _, g2, _⟩ => by rw [show j = 0 from h] at g2; omega
  | d :: R, [], j, ⟨t, a, _, g2, _⟩, h => by rw [show j = 0 from h] at g2; omega
  | d :: R, e :: S, j, ⟨t, a, g1, _, g3⟩, ⟨t', a', h1, _, h3⟩ => by
    rw [g1] at h1
    cases h1
    rw [rp_uniq g3 h3]
theorem rp_fp {QL : List QE} {j : Nat} : ∀ {R S : List Nat} {a : Nat}, rpQ QL a R → fpQ QL j a S → fpQ QL j 0 (R.reverse ++ S)
  | [], S, a, h, g => by rw [show a = 0 from h] at g; exact g
  | d :: R, S, a, ⟨t, b, h1, h2, h3⟩, g => by
    have := rp_fp (S := d :: S) h3 ⟨a, t, h1, h2, g⟩
    rw [List.reverse_cons, List.append_assoc]
    exact this
theorem fp_le {c : KC} {sky : Nat} {s0 : ST} {QL : List QE} {sr p j : Nat} (h : bfsI c sky s0 QL sr p) : ∀ {S : List Nat} {a : Nat}, fpQ QL j a S → a ≤ j ∧ (S ≠ [] → a < j)
  | [], a, g => ⟨by rw [show a = j from g]; exact Nat.le_refl _, fun z => absurd rfl z⟩
  | d :: r, a, ⟨b, t, g1, g2, g3⟩ => by
    have := (fp_le h g3).1
    obtain ⟨u, pa, -, -, -, haj, -⟩ := h.2.2.2.1 b t a d g2 g1
    exact ⟨by omega, fun _ => by omega⟩
theorem par_mono {c : KC} {sky : Nat} {s0 : ST} {QL : List QE} {sr p : Nat} (h : bfsI c sky s0 QL sr p) {j k : Nat} {t t' : ST} {a b d d' : Nat} (hj : 0 < j) (hjk : j ≤ k) (e1 : QL[j]? = some (t, a, d)) (e2 : QL[k]? = some (t', b, d')) : a ≤ b := by
  obtain ⟨u, pa, g1, g2, g3, g4, g5⟩ := h.2.2.2.1 j t a d hj e1
  obtain ⟨u', pb, k1, k2, k3, k4, k5⟩ := h.2.2.2.1 k t' b d' (by omega) e2
  by_cases q : a ≤ b
  · exact q
  · obtain ⟨m, e, m1, m2, m3⟩ := g5 b u' pb _ k1 (Or.inl (by omega)) k2
    have := h.2.2.1 m k e _ m2 e2 m3
    omega
theorem dep_mono {c : KC} {sky : Nat} {s0 : ST} {QL : List QE} {sr p : Nat} (h : bfsI c sky s0 QL sr p) : ∀ (k j : Nat) (R S : List Nat), j ≤ k → rpQ QL j R → rpQ QL k S → R.length ≤ S.length := by
  intro k
  induction k using Nat.strongRecOn with
  | _ k ih =>
    intro j R S hjk h1 h2
    match R, S, h1, h2 with
    | [], S, _, _ => exact Nat.zero_le _
    | d :: R, [], ⟨t, a, e1, e2, e3⟩, g => rw [show k = 0 from g] at hjk; omega
    | d :: R, d' :: S, ⟨t, a, e1, e2, e3⟩, ⟨t', b, f1, f2, f3⟩ =>
      have hab := par_mono h e2 hjk e1 f1
      obtain ⟨u, pa, -, -, -, hbk, -⟩ := h.2.2.2.1 k t' b d' f2 f1
      have := ih b hbk a R S hab e3 f3
      simp only [List.length_cons]; omega
/-- an hour leads one deeper at most -/
theorem dep_step {c : KC} {sky : Nat} {s0 : ST} {QL : List QE} {sr p b : Nat} {v : QE} {x : Nat × ST} (h : bfsI c sky s0 QL sr p) (hb : b < sr) (hv : QL[b]? = some v) (hx : x ∈ nx c sky v.1) {R : List Nat} (hR : rpQ QL b R) : ∃ j e S, QL[j]? = some e ∧ e.1 = x.2 ∧ rpQ QL j S ∧ S.length ≤ R.length + 1 := by
  obtain ⟨q, hq⟩ := List.getElem?_of_mem hx
  obtain ⟨j, e, j1, j2, j3⟩ := h.2.2.2.2 b v q x hv (Or.inl hb) hq
  obtain ⟨S, s1, -⟩ := rp_ex h j j1
  refine ⟨j, e, S, j2, j3, s1, ?_⟩
  match S, s1 with
  | [], _ => show 0 ≤ _; omega
  | d :: S, ⟨t, a, e1, e2, e3⟩ =>
    rw [j2] at e1
    cases e1
    obtain ⟨u, pa, g1, g2, g3, g4, g5⟩ := h.2.2.2.1 j t a d e2 j2
    have hab : a ≤ b := by
      by_cases z : a ≤ b
      · exact z
      · obtain ⟨m, f, m1, m2, m3⟩ := g5 b v q x hv (Or.inl (by omega)) hq
        have := h.2.2.1 m j f _ m2 j2 (by rw [m3]; exact j3.symm)
        omega
    have := dep_mono h b a S R hab e3 hR
    simp only [List.length_cons]; omega
theorem nx_idx {c : KC} {sky : Nat} {s : ST} {x : Nat × ST} : ∀ {M j : Nat}, (nxTo c sky s M)[j]? = some x → ∃ m, m < M ∧ canM c sky s m = true ∧ x = (deedM m, toM c sky s m) ∧ j = (nxTo c sky s m).length
  | 0, j, h => by have h' : ([] : List (Nat × ST))[j]? = some x := h; simp at h'
  | M + 1, j, h => by
    by_cases q : canM c sky s M = true
    · rw [nxTo_yes q] at h
      by_cases w : j < (nxTo c sky s M).length
      · rw [List.getElem?_append_left w] at h
        obtain ⟨m, h1, h2, h3, h4⟩ := nx_idx h
        exact ⟨m, by omega, h2, h3, h4⟩
      · have hl := (List.getElem?_eq_some_iff.mp h).1
        rw [List.length_append] at hl
        simp only [List.length_singleton] at hl
        have hj : j = (nxTo c sky s M).length := by omega
        rw [List.getElem?_append_right (by omega), hj, Nat.sub_self] at h
        cases h
        exact ⟨M, by omega, q, rfl, hj⟩
    · rw [nxTo_no (by simpa using q)] at h
      obtain ⟨m, h1, h2, h3, h4⟩ := nx_idx h
      exact ⟨m, by omega, h2, h3, h4⟩
theorem nxTo_pre {c : KC} {sky : Nat} {s : ST} {m : Nat} : ∀ {r : Nat}, ∃ E, nxTo c sky s (m + r) = nxTo c sky s m ++ E
  | 0 => ⟨[], by rw [List.append_nil]; rfl⟩
  | r + 1 => by
    obtain ⟨E, hE⟩ := nxTo_pre (c := c) (sky := sky) (s := s) (m := m) (r := r)
    refine ⟨E ++ (if canM c sky s (m + r) then [(deedM (m + r), toM c sky s (m + r))] else []), ?_⟩
    show nxTo c sky s (m + r) ++ _ = _
    rw [hE, List.append_assoc]
    rfl
theorem nx_at {c : KC} {sky : Nat} {s : ST} {m : Nat} (hm : m < 19) (hc : canM c sky s m = true) : (nx c sky s)[(nxTo c sky s m).length]? = some (deedM m, toM c sky s m) := by
  obtain ⟨E, hE⟩ := nxTo_pre (c := c) (sky := sky) (s := s) (m := m + 1) (r := 19 - (m + 1))
  rw [show m + 1 + (19 - (m + 1)) = 19 by omega] at hE
  unfold nx
  rw [hE, nxTo_yes hc, List.append_assoc, List.getElem?_append_right (Nat.le_refl _), Nat.sub_self]
  rfl
theorem nxTo_lt {c : KC} {sky : Nat} {s : ST} {m k : Nat} (h : m < k) (hc : canM c sky s m = true) : (nxTo c sky s m).length < (nxTo c sky s k).length := by
  obtain ⟨E, hE⟩ := nxTo_pre (c := c) (sky := sky) (s := s) (m := m + 1) (r := k - (m + 1))
  rw [show m + 1 + (k - (m + 1)) = k by omega] at hE
  rw [hE, nxTo_yes hc, List.length_append, List.length_append]
  simp only [List.length_singleton]; omega
/-- the first goal in the list: the row to it is the first of the shortest -/
theorem bfs_gp {c : KC} {sky : Nat} {s0 : ST} {QL : List QE} {sr p j : Nat} {G : ST → Prop} {ej : QE} {Rj : List Nat} (h : bfsI c sky s0 QL sr p) (hjs : j ≤ sr) (hej : QL[j]? = some ej) (hG : G ej.1) (hno : ∀ (k : Nat) (e : QE), k < j → QL[k]? = some e → ¬ G e.1) (hRj : rpQ QL j Rj) : isGP c sky G s0 Rj.reverse := by
  -- no goal nearer than the first one's depth
  have lemC : ∀ (m b : Nat) (v : QE) (R : List Nat), QL[b]? = some v → rpQ QL b R → R.length + m < Rj.length → ¬ rchG c sky G m v.1 := by
    intro m
    induction m with
    | zero =>
      intro b v R hv hR hlt hr
      have hbj : b < j := by
        by_cases z : b < j
        · exact z
        · have := dep_mono h b j Rj R (by omega) hRj hR; omega
      exact hno b v hbj hv hr
    | succ m ih =>
      intro b v R hv hR hlt hr
      obtain ⟨x, x1, x2⟩ := hr
      have hbj : b < j := by
        by_cases z : b < j
        · exact z
        · have := dep_mono h b j Rj R (by omega) hRj hR; omega
      obtain ⟨k, e, S, k1, k2, k3, k4⟩ := dep_step h (by omega) hv x1 hR
      exact ih k e S k1 k3 (by omega) (by rw [k2]; exact x2)
  -- those ahead of the row's stands don't reach a goal in so few hours
  have lemB : ∀ (S : List Nat) (a b m : Nat) (v : QE), fpQ QL j a S → b < a → m ≤ S.length → QL[b]? = some v → ¬ rchG c sky G m v.1 := by
    intro S
    induction S with
    | nil =>
      intro a b m v hf hb hm hv hr
      have hm0 : m = 0 := by simpa using hm
      subst hm0
      exact hno b v (by rw [show a = j from hf] at hb; exact hb) hv hr
    | cons d S ih =>
      intro a b m v hf hb hm hv hr
      have haj := (fp_le h hf).1
      cases m with
      | zero => exact hno b v (by omega) hv hr
      | succ m =>
        obtain ⟨x, x1, x2⟩ := hr
        obtain ⟨b1, t, g1, g2, g3⟩ := hf
        obtain ⟨u, pa, k1, k2, k3, k4, k5⟩ := h.2.2.2.1 b1 t a d g2 g1
        obtain ⟨q, hq⟩ := List.getElem?_of_mem x1
        obtain ⟨i', e, i1, i2, i3⟩ := k5 b v q x hv (Or.inl hb) hq
        exact ih b1 i' m e g3 i1 (by simp only [List.length_cons] at hm; omega) i2 (by rw [i3]; exact x2)
  have rch : ∀ (S : List Nat) (a : Nat) (v : QE), fpQ QL j a S → QL[a]? = some v → rchG c sky G S.length v.1 := by
    intro S
    induction S with
    | nil => intro a v hf hv; rw [show a = j from hf, hej] at hv; cases hv; exact hG
    | cons d S ih =>
      rintro a v ⟨b, t, g1, g2, g3⟩ hv
      obtain ⟨u, pa, k1, k2, -⟩ := h.2.2.2.1 b t a d g2 g1
      rw [hv] at k1
      cases k1
      exact ⟨_, List.mem_of_getElem? k2, ih b _ g3 g1⟩
  have main : ∀ (S R : List Nat) (a : Nat) (v : QE), fpQ QL j a S → rpQ QL a R → QL[a]? = some v → R.length + S.length = Rj.length → isGP c sky G v.1 S := by
    intro S
    induction S with
    | nil => intro R a v hf hR hv hl; rw [show a = j from hf, hej] at hv; cases hv; exact hG
    | cons d S ih =>
      intro R a v hf hR hv hl
      have hf' := hf
      obtain ⟨b, t, g1, g2, g3⟩ := hf
      obtain ⟨u, pa, k1, k2, k3, k4, k5⟩ := h.2.2.2.1 b t a d g2 g1
      rw [hv] at k1
      cases k1
      simp only [List.length_cons] at hl
      have hRb : rpQ QL b (d :: R) := ⟨t, a, g1, g2, hR⟩
      have hda : dstG c sky G v.1 (S.length + 1) := ⟨rch (d :: S) a v hf' hv, fun m hm => lemC m a v R hv hR (by omega)⟩
      have hdb : dstG c sky G t S.length := ⟨rch S b _ g3 g1, fun m hm => lemC m b _ (d :: R) g1 hRb (by simp only [List.length_cons]; omega)⟩
      obtain ⟨m, m1, m2, m3, m4⟩ := nx_idx (M := 19) k2
      have e1 : d = deedM m := congrArg Prod.fst m3
      have e2 : t = toM c sky v.1 m := congrArg Prod.snd m3
      refine ⟨m, hda, ⟨m1, ⟨m2, by rw [← e2]; exact hdb⟩, fun m' hm' hz => ?_⟩, e1, ?_⟩
      · have hat := nx_at (show m' < 19 by omega) hz.1
        obtain ⟨i', e, i1, i2, i3⟩ := k5 a v _ _ hv (Or.inr ⟨rfl, by rw [m4]; exact nxTo_lt hm' hz.1⟩) hat
        exact lemB S b i' S.length e g3 i1 (Nat.le_refl _) i2 (by rw [i3]; exact hz.2.1)
      · rw [← e2]; exact ih (d :: R) b _ g3 hRb g1 (by simp only [List.length_cons]; omega)
  have hfp : fpQ QL j 0 Rj.reverse := by
    have := rp_fp (S := []) (j := j) hRj rfl
    rwa [List.append_nil] at this
  exact main Rj.reverse [] 0 _ hfp rfl h.1 (by rw [List.length_reverse]; show 0 + _ = _; omega)
/-- no goal in the whole list: there is none -/
theorem bfs_none {c : KC} {sky : Nat} {s0 : ST} {QL : List QE} {G : ST → Prop} (h : bfsI c sky s0 QL QL.length 0) (hno : ∀ (k : Nat) (e : QE), QL[k]? = some e → ¬ G e.1) : ∀ n, ¬ rchG c sky G n s0 := by
  have : ∀ n (k : Nat) (e : QE), QL[k]? = some e → ¬ rchG c sky G n e.1 := by
    intro n
    induction n with
    | zero => intro k e he; exact hno k e he
    | succ n ih =>
      rintro k e he ⟨x, x1, x2⟩
      obtain ⟨q, hq⟩ := List.getElem?_of_mem x1
      obtain ⟨j, f, j1, j2, j3⟩ := h.2.2.2.2 k e q x he (Or.inl (List.getElem?_eq_some_iff.mp he).1) hq
      exact ih j f j2 (by rw [j3]; exact x2)
  exact fun n => this n 0 _ h.1
/-- the whole list is all that can be reached -/
theorem bfs_all {c : KC} {sky : Nat} {s0 : ST} {QL : List QE} (h : bfsI c sky s0 QL QL.length 0) {t : ST} : t ∈ QL.map (fun e => e.1) ↔ rS c sky s0 t := by
  constructor
  · intro ht
    obtain ⟨e, e1, e2⟩ := List.mem_map.mp ht
    obtain ⟨j, hj⟩ := List.getElem?_of_mem e1
    rw [← e2]
    clear e1 e2 ht
    revert e
    induction j using Nat.strongRecOn with
    | _ j ih =>
      intro e hj
      by_cases q : j = 0
      · subst q; rw [h.1] at hj; cases hj; exact ⟨0, rfl⟩
      · obtain ⟨t', a, d⟩ := e
        obtain ⟨u, pa, g1, g2, -, g4, -⟩ := h.2.2.2.1 j t' a d (by omega) hj
        obtain ⟨n, hn⟩ := ih a g4 u g1
        exact ⟨n + 1, u.1, _, hn, List.mem_of_getElem? g2, rfl⟩
  · rintro ⟨n, hn⟩
    revert t
    induction n with
    | zero => intro t hn; rw [show t = s0 from hn]; exact List.mem_map.mpr ⟨_, List.mem_of_getElem? h.1, rfl⟩
    | succ n ih =>
      rintro t ⟨u, x, x1, x2, rfl⟩
      obtain ⟨e, e1, e2⟩ := List.mem_map.mp (ih x1)
      obtain ⟨k, hk⟩ := List.getElem?_of_mem e1
      rw [← e2] at x2
      obtain ⟨q, hq⟩ := List.getElem?_of_mem x2
      obtain ⟨j, f, j1, j2, j3⟩ := h.2.2.2.2 k e q x hk (Or.inl (List.getElem?_eq_some_iff.mp hk).1) hq
      exact List.mem_map.mpr ⟨f, List.mem_of_getElem? j2, j3⟩

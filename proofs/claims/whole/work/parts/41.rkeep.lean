/-! KEEPING UP: the first hours by which it lasts; the reference's calls -/
def goodM (c : KC) (sky nb : Nat) (x : ST) (m : Nat) : Prop := canM c sky x m = true ∧ (downB c (toM c sky x m) = false ∧ ∀ p, p < nb → downB c (weakS (toM c sky x m) p) = false) ∧ ∀ n, sv c sky nb (n + 1) x → sv c sky nb n (toM c sky x m) ∧ ∀ p, p < nb → sv c sky nb n (weakS (toM c sky x m) p)
def farX (c : KC) (sky nb : Nat) (L : List ST) (fn : ST → Int) : Prop := ∀ u, u ∈ L → (fn u = 268435456 ∧ ∀ n, sv c sky nb n u) ∨ ∃ v : Nat, fn u = v ∧ v < 24000 ∧ valV c sky nb u v
theorem farX_of {c : KC} {sky nb : Nat} {L : List ST} {i : Nat → Int} {A : Nat → Int → Int} (hS : stkR c L i A) (h : farOK c sky nb L (A 81)) (h26 : i 26 = 268435456) : farX c sky nb L (fnw i A) := by
  intro u hu
  obtain ⟨j, hj⟩ := List.getElem?_of_mem hu
  rw [fnw_at hS hj, h26]
  rcases h j u hj with ⟨h1, h2⟩ | ⟨v, h1, h2, h3⟩
  · left; rw [h1]; exact ⟨rfl, h2⟩
  · right; rw [h1, if_pos (by omega)]; exact ⟨v, rfl, h2, h3⟩
theorem fnw_eq {c : KC} {sky nb : Nat} {L : List ST} {i : Nat → Int} {A : Nat → Int → Int} {x : ST} {j : Nat} (hS : stkR c L i A) (h : farOK c sky nb L (A 81)) (h26 : i 26 = 268435456) (hx : L[j]? = some x) : fnw i A x = A 81 j := by
  rw [fnw_at hS hx, h26]
  rcases h j x hx with ⟨h1, h2⟩ | ⟨v, h1, h2, h3⟩
  · rw [h1]; rfl
  · rw [h1, if_pos (by omega)]
theorem farB_ok {c : KC} {sky nb : Nat} {L : List ST} {i : Nat → Int} {A : Nat → Int → Int} (h : farOK c sky nb L (A 81)) (h26 : i 26 = 268435456) : farB L i A := by
  refine ⟨fun j hj => ?_, by omega⟩
  rcases h j _ (List.getElem?_eq_getElem hj) with ⟨h1, -⟩ | ⟨v, h1, h2, -⟩ <;> omega
theorem val_sv {c : KC} {sky nb : Nat} {x : ST} {v n : Nat} (h : valV c sky nb x v) (g : sv c sky nb n x) : n ≤ v := by
  by_cases q : n ≤ v
  · exact q
  · exact absurd (sv_le (by omega) g) h.2
theorem good_iff {c : KC} {sky nb : Nat} {L : List ST} {fn : ST → Int} {x : ST} {m : Nat} (hf : farX c sky nb L fn) (hx : x ∈ L) (hc : clsM c sky nb L x) (hm : m < 19) (h0 : 0 < fn x) : upV c sky nb fn x m = fn x ↔ goodM c sky nb x m := by
  unfold upV goodM
  by_cases h1 : canM c sky x m = true
  · obtain ⟨hy, hw⟩ := hc m hm h1
    have hstep : (downB c (toM c sky x m) = false ∧ ∀ p, p < nb → downB c (weakS (toM c sky x m) p) = false) → ∀ n, (sv c sky nb n (toM c sky x m) ∧ ∀ p, p < nb → sv c sky nb n (weakS (toM c sky x m) p)) → sv c sky nb (n + 1) x := fun hd n hn => sv_s.mpr ⟨m, hm, h1, ⟨hd.1, hn.1⟩, fun p hp => ⟨hd.2 p hp, hn.2 p hp⟩⟩
    rw [h1, Bool.true_and]
    generalize toM c sky x m = y at *
    by_cases h2 : upsTo c y nb = true
    · rw [if_pos h2]
      have hu := upsTo_iff.mp h2
      have hl := lst_le (fn := fn) (t := y) (n := nb)
      have hle := lst_ex (fn := fn) (t := y) (n := nb)
      have hex : ∃ u, (u = y ∨ ∃ p, p < nb ∧ u = weakS y p) ∧ lst fn y nb = fn u ∧ u ∈ L := by
        rcases hle with h | ⟨p, hp, h⟩
        · exact ⟨y, Or.inl rfl, h, hy⟩
        · exact ⟨_, Or.inr ⟨p, hp, rfl⟩, h, hw p hp⟩
      have ge : ∀ n : Nat, ((n : Int) ≤ lst fn y nb) → sv c sky nb n y ∧ ∀ p, p < nb → sv c sky nb n (weakS y p) := by
        intro n hn
        have key : ∀ w, w ∈ L → lst fn y nb ≤ fn w → sv c sky nb n w := fun w hw1 hw2 => by
          rcases hf w hw1 with ⟨-, g2⟩ | ⟨v', g1, -, g3⟩
          · exact g2 n
          · exact sv_le (by omega) g3.1
        exact ⟨key y hy hl.1, fun p hp => key _ (hw p hp) (hl.2 p hp)⟩
      have lt : ∀ n : Nat, n ≤ 268435456 → (sv c sky nb n y ∧ ∀ p, p < nb → sv c sky nb n (weakS y p)) → (n : Int) ≤ lst fn y nb := by
        intro n hn hs
        obtain ⟨u, hu1, hu2, hu3⟩ := hex
        have hsu : sv c sky nb n u := by
          rcases hu1 with q | ⟨p, hp, q⟩
          · rw [q]; exact hs.1
          · rw [q]; exact hs.2 p hp
        rcases hf u hu3 with ⟨g1, -⟩ | ⟨v', g1, -, g3⟩
        · omega
        · have := val_sv g3 hsu; omega
      have fin : lst fn y nb = 268435456 ∨ ∃ v : Nat, lst fn y nb = v ∧ v < 24000 := by
        obtain ⟨u, hu1, hu2, hu3⟩ := hex
        rcases hf u hu3 with ⟨g1, -⟩ | ⟨v', g1, g2, -⟩
        · exact Or.inl (by omega)
        · exact Or.inr ⟨v', by omega, g2⟩
      rcases hf x hx with ⟨e1, e2⟩ | ⟨v, e1, e2, e3⟩
      · rw [e1]
        constructor
        · intro h3
          have hF : lst fn y nb = 268435456 := by
            by_cases q : lst fn y nb = 268435456
            · exact q
            · rw [if_neg q] at h3
              rcases fin with z | ⟨v, z1, z2⟩ <;> omega
          refine ⟨rfl, hu, fun n _ => ?_⟩
          by_cases hn : n ≤ 268435456
          · exact ge n (by omega)
          · have key : ∀ w, w ∈ L → lst fn y nb ≤ fn w → sv c sky nb n w := fun w hw1 hw2 => by
              rcases hf w hw1 with ⟨-, g2⟩ | ⟨v', g1, g2, g3⟩
              · exact g2 n
              · omega
            exact ⟨key y hy hl.1, fun p hp => key _ (hw p hp) (hl.2 p hp)⟩
        · intro h3
          have hF : lst fn y nb = 268435456 := by
            have := lt 268435456 (Nat.le_refl _) (h3.2.2 268435456 (e2 _))
            rcases fin with z | ⟨v, z1, z2⟩
            · exact z
            · omega
          rw [if_pos hF]
      · rw [e1] at h0 ⊢
        obtain ⟨v, rfl⟩ : ∃ k, v = k + 1 := ⟨v - 1, by omega⟩
        constructor
        · intro h3
          have hF : lst fn y nb = v := by
            by_cases q : lst fn y nb = 268435456
            · rw [if_pos q] at h3; omega
            · rw [if_neg q] at h3; omega
          refine ⟨rfl, hu, fun n hn => ?_⟩
          have := val_sv e3 hn
          exact ge n (by omega)
        · intro h3
          have a1 := lt v (by omega) (h3.2.2 v e3.1)
          have a2 : ¬ ((v + 1 : Nat) : Int) ≤ lst fn y nb := fun z => by
            have := val_sv e3 (hstep hu (v + 1) (ge (v + 1) z))
            omega
          rw [if_neg (by omega)]
          omega
    · rw [if_neg h2]
      constructor
      · intro h3; omega
      · intro h3; exact absurd (upsTo_iff.mpr h3.2.1) h2
  · constructor
    · intro h3
      have : canM c sky x m = false := by simpa using h1
      rw [this] at h3
      simp only [Bool.false_and, if_false, Bool.false_eq_true] at h3
      omega
    · intro h3; exact absurd h3.1 h1
theorem good_ex {c : KC} {sky nb : Nat} {x : ST} (h : sv c sky nb 1 x) : ∃ m, m < 19 ∧ goodM c sky nb x m := by
  by_cases he : ∀ n, sv c sky nb n x
  · refine Classical.byContradiction (fun z => ?_)
    have g : ∀ m, m < 19 → ∃ n, ¬ (canM c sky x m = true ∧ (downB c (toM c sky x m) = false ∧ sv c sky nb n (toM c sky x m)) ∧ ∀ p, p < nb → downB c (weakS (toM c sky x m) p) = false ∧ sv c sky nb n (weakS (toM c sky x m) p)) := by
      intro m hm
      refine Classical.byContradiction (fun y => z ⟨m, hm, ?_⟩)
      have y' : ∀ n, canM c sky x m = true ∧ (downB c (toM c sky x m) = false ∧ sv c sky nb n (toM c sky x m)) ∧ ∀ p, p < nb → downB c (weakS (toM c sky x m) p) = false ∧ sv c sky nb n (weakS (toM c sky x m) p) := fun n => Classical.byContradiction (fun w => y ⟨n, w⟩)
      exact ⟨(y' 0).1, ⟨(y' 0).2.1.1, fun p hp => ((y' 0).2.2 p hp).1⟩, fun n _ => ⟨(y' n).2.1.2, fun p hp => ((y' n).2.2 p hp).2⟩⟩
    have hall : ∀ M, M ≤ 19 → ∃ n, ∀ m, m < M → ¬ (canM c sky x m = true ∧ (downB c (toM c sky x m) = false ∧ sv c sky nb n (toM c sky x m)) ∧ ∀ p, p < nb → downB c (weakS (toM c sky x m) p) = false ∧ sv c sky nb n (weakS (toM c sky x m) p)) := by
      intro M
      induction M with
      | zero => intro _; exact ⟨0, fun m hm => absurd hm (by omega)⟩
      | succ M ih =>
        intro hM
        obtain ⟨n, hn⟩ := ih (by omega)
        obtain ⟨n', hn'⟩ := g M (by omega)
        refine ⟨n + n', fun m hm w => ?_⟩
        by_cases q : m = M
        · subst q
          exact hn' ⟨w.1, ⟨w.2.1.1, sv_le (by omega) w.2.1.2⟩, fun p hp => ⟨(w.2.2 p hp).1, sv_le (by omega) (w.2.2 p hp).2⟩⟩
        · exact hn m (by omega) ⟨w.1, ⟨w.2.1.1, sv_le (by omega) w.2.1.2⟩, fun p hp => ⟨(w.2.2 p hp).1, sv_le (by omega) (w.2.2 p hp).2⟩⟩
    obtain ⟨n, hn⟩ := hall 19 (by omega)
    obtain ⟨m, h1, h2, h3, h4⟩ := sv_s.mp (he (n + 1))
    exact hn m h1 ⟨h2, h3, h4⟩
  · have : ∃ v, valV c sky nb x v := by
      have : ∃ n, ¬ sv c sky nb n x := Classical.byContradiction (fun z => he (fun n => Classical.byContradiction (fun y => z ⟨n, y⟩)))
      obtain ⟨n, hn⟩ := this
      induction n with
      | zero => exact absurd trivial hn
      | succ n ih =>
        by_cases q : sv c sky nb n x
        · exact ⟨n, q, hn⟩
        · exact ih q
    obtain ⟨v, hv⟩ := this
    have := val_sv hv h
    obtain ⟨v, rfl⟩ : ∃ k, v = k + 1 := ⟨v - 1, by omega⟩
    obtain ⟨m, h1, h2, h3, h4⟩ := sv_s.mp hv.1
    refine ⟨m, h1, h2, ⟨h3.1, fun p hp => (h4 p hp).1⟩, fun n hn => ?_⟩
    have := val_sv hv hn
    exact ⟨sv_le (by omega) h3.2, fun p hp => sv_le (by omega) (h4 p hp).2⟩
theorem good_1 {c : KC} {sky nb : Nat} {x : ST} {m : Nat} (hm : m < 19) (h : goodM c sky nb x m) : sv c sky nb 1 x := sv_s.mpr ⟨m, hm, h.1, ⟨h.2.1.1, trivial⟩, fun p hp => ⟨h.2.1.2 p hp, trivial⟩⟩
def fstG (c : KC) (sky nb : Nat) (x : ST) (m : Nat) : Prop := m < 19 ∧ goodM c sky nb x m ∧ ∀ m', m' < m → ¬ goodM c sky nb x m'
theorem fst_ex {P : Nat → Prop} {n : Nat} (hn : P n) : ∃ m, m ≤ n ∧ P m ∧ ∀ m', m' < m → ¬ P m' := by
  induction n using Nat.strongRecOn with
  | _ n ih =>
    by_cases q : ∃ m, m < n ∧ P m
    · obtain ⟨m, h1, h2⟩ := q
      obtain ⟨k, g1, g2, g3⟩ := ih m h1 h2
      exact ⟨k, by omega, g2, g3⟩
    · exact ⟨n, Nat.le_refl _, hn, fun m hm z => q ⟨m, hm, z⟩⟩
theorem fstG_ex {c : KC} {sky nb : Nat} {x : ST} (h : sv c sky nb 1 x) : ∃ m, fstG c sky nb x m := by
  obtain ⟨n, h1, h2⟩ := good_ex h
  obtain ⟨m, g1, g2, g3⟩ := fst_ex (P := goodM c sky nb x) h2
  exact ⟨m, by omega, g2, g3⟩
theorem fstG_uniq {c : KC} {sky nb : Nat} {x : ST} {m n : Nat} (h : fstG c sky nb x m) (g : fstG c sky nb x n) : m = n := by
  by_cases q : m < n
  · exact absurd h.2.1 (g.2.2 m q)
  · by_cases q' : n < m
    · exact absurd g.2.1 (h.2.2 n q')
    · omega
/-- answers: how many hours; the deed of the i-th hour; the first deed -/
def farA (c : KC) (sky nb : Nat) (s : ST) (v : Int) : Prop := (v = -1 ∧ ∀ n, sv c sky nb n s) ∨ ∃ n : Nat, v = n ∧ valV c sky nb s n
theorem farA_uniq {c : KC} {sky nb : Nat} {s : ST} {u v : Int} (h : farA c sky nb s u) (g : farA c sky nb s v) : u = v := by
  rcases h with ⟨h1, h2⟩ | ⟨n, h1, h2⟩ <;> rcases g with ⟨g1, g2⟩ | ⟨k, g1, g2⟩
  · omega
  · exact absurd (h2 _) g2.2
  · exact absurd (g2 _) h2.2
  · have := val_sv h2 g2.1; have := val_sv g2 h2.1; omega
def keepA (c : KC) (sky : Nat) : Nat → ST → Int → Prop
  | 0, s, v => (∃ m, fstG c sky 0 s m ∧ v = deedM m) ∨ (¬ sv c sky 0 1 s ∧ v = -1)
  | n + 1, s, v => (∃ m, fstG c sky 0 s m ∧ keepA c sky n (toM c sky s m) v) ∨ (¬ sv c sky 0 1 s ∧ v = -1)
theorem keepA_uniq {c : KC} {sky : Nat} {u v : Int} : ∀ {n : Nat} {s : ST}, keepA c sky n s u → keepA c sky n s v → u = v := by
  intro n
  induction n with
  | zero =>
    intro s h g
    rcases h with ⟨m, h1, h2⟩ | ⟨h1, h2⟩ <;> rcases g with ⟨k, g1, g2⟩ | ⟨g1, g2⟩
    · rw [h2, g2, fstG_uniq h1 g1]
    · exact absurd (good_1 h1.1 h1.2.1) g1
    · exact absurd (good_1 g1.1 g1.2.1) h1
    · rw [h2, g2]
  | succ n ih =>
    intro s h g
    rcases h with ⟨m, h1, h2⟩ | ⟨h1, h2⟩ <;> rcases g with ⟨k, g1, g2⟩ | ⟨g1, g2⟩
    · rw [fstG_uniq h1 g1] at h2; exact ih h2 g2
    · exact absurd (good_1 h1.1 h1.2.1) g1
    · exact absurd (good_1 g1.1 g1.2.1) h1
    · rw [h2, g2]
def bestA (c : KC) (sky : Nat) (s : ST) (v : Int) : Prop := (∃ m, fstG c sky (kN c) s m ∧ v = deedM m) ∨ (¬ sv c sky (kN c) 1 s ∧ v = -1)
theorem bestA_uniq {c : KC} {sky : Nat} {s : ST} {u v : Int} (h : bestA c sky s u) (g : bestA c sky s v) : u = v := by
  rcases h with ⟨m, h1, h2⟩ | ⟨h1, h2⟩ <;> rcases g with ⟨k, g1, g2⟩ | ⟨g1, g2⟩
  · rw [h2, g2, fstG_uniq h1 g1]
  · exact absurd (good_1 h1.1 h1.2.1) g1
  · exact absurd (good_1 g1.1 g1.2.1) h1
  · rw [h2, g2]

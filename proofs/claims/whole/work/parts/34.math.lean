/-! MATHEMATICS of rows of hours: stands by numbers, sequences that come to rest, keeping up, coming, the beast -/
def szC (c : KC) : Nat := max 1 (kN c * kPw c * 4 ^ kN c)
theorem encC_lt {c : KC} {s : ST} (hK : okK c) (hs : okS c s) : encC c s < szC c := by
  obtain ⟨b1, b2, b3, b4, b5, b6⟩ := okS_bounds hs hK.2.2 hK.2.1 hK.1
  have hb1 : encP (kP c) (kN c) s.2.1 < kPw c := b1
  unfold szC
  rcases Nat.eq_zero_or_pos (kN c) with q | q
  · have h0 : encC c s = 0 := by
      unfold encC
      rw [q, hs.2.2.1 q]
      try rfl
    rw [h0]; omega
  · have h1 := hs.2.2.2 q
    have h2 : (s.1 * kPw c + encP (kP c) (kN c) s.2.1 + 1) * 4 ^ kN c ≤ kN c * kPw c * 4 ^ kN c := by
      refine Nat.mul_le_mul_right _ ?_
      have : (s.1 + 1) * kPw c ≤ kN c * kPw c := Nat.mul_le_mul_right _ h1
      rw [Nat.add_mul, Nat.one_mul] at this
      omega
    have h3 : encC c s = (s.1 * kPw c + encP (kP c) (kN c) s.2.1) * 4 ^ kN c + encP 4 (kN c) s.2.2 := rfl
    rw [Nat.add_mul, Nat.one_mul] at h2
    omega
theorem szC_le {c : KC} (hK : okK c) : szC c ≤ 24000 := by
  obtain ⟨h1, h2, h3⟩ := hK
  have a1 : kPw c ≤ 5 ^ 3 := Nat.le_trans (Nat.pow_le_pow_left h2 _) (Nat.pow_le_pow_right (by decide) h3)
  have a2 : 4 ^ kN c ≤ 4 ^ 3 := Nat.pow_le_pow_right (by decide) h3
  have a3 : kN c * kPw c ≤ 3 * 125 := Nat.mul_le_mul h3 a1
  have a4 : kN c * kPw c * 4 ^ kN c ≤ 3 * 125 * 64 := Nat.mul_le_mul a3 a2
  unfold szC
  omega
theorem szC_pos {c : KC} : 1 ≤ szC c := by unfold szC; omega
theorem encC_inj {c : KC} {s t : ST} (hK : okK c) (hs : okS c s) (ht : okS c t) (h : encC c s = encC c t) : s = t := by
  have d1 := encC_div hs
  have d2 := encC_div ht
  have m1 := encC_mod hs
  have m2 := encC_mod ht
  rw [h, d2] at d1
  rw [h, m2] at m1
  obtain ⟨b1, -⟩ := okS_bounds hs hK.2.2 hK.2.1 hK.1
  obtain ⟨b2, -⟩ := okS_bounds ht hK.2.2 hK.2.1 hK.1
  have hb1 : encP (kP c) (kN c) s.2.1 < kPw c := b1
  have hb2 : encP (kP c) (kN c) t.2.1 < kPw c := b2
  have q1 : t.1 = s.1 := by
    have e1 : (t.1 * kPw c + encP (kP c) (kN c) t.2.1) / kPw c = t.1 := by
      rw [Nat.mul_comm, Nat.mul_add_div (by omega), Nat.div_eq_of_lt hb2]; omega
    have e2 : (s.1 * kPw c + encP (kP c) (kN c) s.2.1) / kPw c = s.1 := by
      rw [Nat.mul_comm, Nat.mul_add_div (by omega), Nat.div_eq_of_lt hb1]; omega
    rw [← e1, ← e2, d1]
  rw [q1] at d1
  have q2 : encP (kP c) (kN c) s.2.1 = encP (kP c) (kN c) t.2.1 := by omega
  have q3 := encP_inj (fun i hi => (hs.1 i hi).1) (fun i hi => (ht.1 i hi).1) q2
  have q4 := encP_inj (fun i hi => (hs.1 i hi).2) (fun i hi => (ht.1 i hi).2) m1.symm
  refine Prod.ext q1.symm (Prod.ext (funext fun i => ?_) (funext fun i => ?_))
  · by_cases hi : i < kN c
    · exact q3 i hi
    · rw [(hs.2.1 i (by omega)).1, (ht.2.1 i (by omega)).1]
  · by_cases hi : i < kN c
    · exact q4 i hi
    · rw [(hs.2.1 i (by omega)).2, (ht.2.1 i (by omega)).2]
theorem encR_inj {c : KC} {s t : ST} (hK : okK c) (hs : okS c s) (ht : okS c t) (h : encR s = encR t) : s = t := by
  have r1 := okS_R hK hs
  have r2 := okS_R hK ht
  have l1 := encR_lt r1
  have l2 := encR_lt r2
  have q1 : s.1 = t.1 := by
    have e1 : encR s / 32768 = s.1 := by unfold encR; have := l1.1; omega
    have e2 : encR t / 32768 = t.1 := by unfold encR; have := l2.1; omega
    rw [← e1, ← e2, h]
  have q2 : ∀ i, i < 3 → s.2.1 i + 8 * s.2.2 i = t.2.1 i + 8 * t.2.2 i := fun i hi => by
    rw [← encR_dig r1 hi, ← encR_dig r2 hi, h]
  have hN := hK.2.2
  refine Prod.ext q1 (Prod.ext (funext fun i => ?_) (funext fun i => ?_))
  · by_cases hi : i < kN c
    · have := q2 i (by omega); have := r1.1 i; have := r2.1 i; omega
    · rw [(hs.2.1 i (by omega)).1, (ht.2.1 i (by omega)).1]
  · by_cases hi : i < kN c
    · have := q2 i (by omega); have := r1.1 i; have := r2.1 i; omega
    · rw [(hs.2.1 i (by omega)).2, (ht.2.1 i (by omega)).2]
/-- a list of different numbers below n is no longer than n -/
theorem nodup_le {n : Nat} {l : List Nat} (hn : l.Nodup) (h : ∀ x, x ∈ l → x < n) : l.length ≤ n := by
  have := List.Nodup.length_le_of_subset hn (l₂ := List.range n) (fun x hx => List.mem_range.mpr (h x hx))
  rwa [List.length_range] at this
/-- sequences of sets of numbers that only shrink, each told by the one ahead, come to rest -/
theorem stab {N : Nat} {P : Nat → Nat → Prop} (mono : ∀ n k, P (n + 1) k → P n k) (det : ∀ n, (∀ k, k < N → P n k → P (n + 1) k) → ∀ k, k < N → P (n + 1) k → P (n + 2) k) : ∀ k, k < N → P N k → ∀ n, P n k := by
  have monoR : ∀ r n k, P (n + r) k → P n k := by
    intro r
    induction r with
    | zero => intro n k h; exact h
    | succ r ih => intro n k h; exact ih n k (mono (n + r) k h)
  have rest : ∀ m, (∀ k, k < N → P m k → P (m + 1) k) → ∀ r k, k < N → P m k → P (m + r) k := by
    intro m hm r
    have st : ∀ r, ∀ k, k < N → P (m + r) k → P (m + r + 1) k := by
      intro r
      induction r with
      | zero => exact hm
      | succ r ih => exact det (m + r) ih
    induction r with
    | zero => intro k _ h; exact h
    | succ r ih => intro k hk h; exact st r k hk (ih k hk h)
  have cnt : ∀ m, (∃ j, j ≤ m ∧ ∀ k, k < N → P j k → P (j + 1) k) ∨ ∃ l : List Nat, l.Nodup ∧ (∀ x, x ∈ l → x < N ∧ ¬ P (m + 1) x) ∧ l.length = m + 1 := by
    intro m
    induction m with
    | zero =>
      by_cases h : ∀ k, k < N → P 0 k → P 1 k
      · exact Or.inl ⟨0, Nat.le_refl _, h⟩
      · refine Or.inr ?_
        have : ∃ k, k < N ∧ ¬ P 1 k := Classical.byContradiction (fun z => h (fun k hk _ => Classical.byContradiction (fun y => z ⟨k, hk, y⟩)))
        obtain ⟨k, h1, h2⟩ := this
        exact ⟨[k], by simp, fun x hx => by rw [List.mem_singleton] at hx; rw [hx]; exact ⟨h1, h2⟩, rfl⟩
    | succ m ih =>
      rcases ih with ⟨j, h1, h2⟩ | ⟨l, h1, h2, h3⟩
      · exact Or.inl ⟨j, by omega, h2⟩
      · by_cases h : ∀ k, k < N → P (m + 1) k → P (m + 2) k
        · exact Or.inl ⟨m + 1, Nat.le_refl _, h⟩
        · refine Or.inr ?_
          have : ∃ k, k < N ∧ P (m + 1) k ∧ ¬ P (m + 2) k := Classical.byContradiction (fun z => h (fun k hk hp => Classical.byContradiction (fun y => z ⟨k, hk, hp, y⟩)))
          obtain ⟨k, g1, g2, g3⟩ := this
          refine ⟨k :: l, List.nodup_cons.mpr ⟨fun z => (h2 k z).2 g2, h1⟩, ?_, by rw [List.length_cons, h3]⟩
          intro x hx
          rcases List.mem_cons.mp hx with e | e
          · rw [e]; exact ⟨g1, g3⟩
          · exact ⟨(h2 x e).1, fun z => (h2 x e).2 (mono _ _ z)⟩
  intro k hk hp n
  rcases cnt N with ⟨j, h1, h2⟩ | ⟨l, h1, h2, h3⟩
  · have hj : P j k := monoR (N - j) j k (by rw [show j + (N - j) = N by omega]; exact hp)
    by_cases hn : n ≤ j
    · exact monoR (j - n) n k (by rw [show n + (j - n) = j by omega]; exact hj)
    · have := rest j h2 (n - j) k hk hj
      rwa [show j + (n - j) = n by omega] at this
  · have := nodup_le h1 (fun x hx => (h2 x hx).1)
    omega
theorem stabS {c : KC} (hK : okK c) {P : Nat → ST → Prop} (mono : ∀ n s, P (n + 1) s → P n s) (det : ∀ n, (∀ s, okS c s → P n s → P (n + 1) s) → ∀ s, okS c s → P (n + 1) s → P (n + 2) s) : ∀ s, okS c s → P (szC c) s → ∀ n, P n s := by
  intro s hs hp n
  have := stab (N := szC c) (P := fun n k => ∃ s, okS c s ∧ encC c s = k ∧ P n s) (fun n k ⟨s, h1, h2, h3⟩ => ⟨s, h1, h2, mono n s h3⟩) (fun n hn k hk ⟨s, h1, h2, h3⟩ => ⟨s, h1, h2, det n (fun s hs hp => by
    obtain ⟨s', g1, g2, g3⟩ := hn (encC c s) (encC_lt hK hs) ⟨s, hs, rfl, hp⟩
    rw [← encC_inj hK g1 hs g2]; exact g3) s h1 h3⟩) (encC c s) (encC_lt hK hs) ⟨s, hs, rfl, hp⟩ n
  obtain ⟨s', g1, g2, g3⟩ := this
  rw [← encC_inj hK g1 hs g2]; exact g3
/-- does an hour need one of the kin (3: none) -/
def needB (deed b : Nat) : Bool := if deed = 0 then false else if deed < 100 then decide (deed - 10 = b) else decide ((deed - 100) / 10 = b)
noncomputable def en (c : KC) (sky b : Nat) (s : ST) : List (Nat × ST) := (nx c sky s).filter (fun x => !downB c x.2 && !needB x.1 b)
theorem en_mem {c : KC} {sky b : Nat} {s : ST} {x : Nat × ST} : x ∈ en c sky b s ↔ x ∈ nx c sky s ∧ downB c x.2 = false ∧ needB x.1 b = false := by
  unfold en
  rw [List.mem_filter]
  simp
theorem nx_ok {c : KC} {sky : Nat} {s : ST} (hs : okS c s) {x : Nat × ST} (hx : x ∈ nx c sky s) : okS c x.2 := nxTo_ok hs 19 x hx
theorem en_ok {c : KC} {sky b : Nat} {s : ST} (hs : okS c s) {x : Nat × ST} (hx : x ∈ en c sky b s) : okS c x.2 := nx_ok hs (en_mem.mp hx).1
def surv (c : KC) (sky b : Nat) : Nat → ST → Prop
  | 0, _ => True
  | n + 1, s => ∃ x, x ∈ en c sky b s ∧ surv c sky b n x.2
theorem surv_s {c : KC} {sky b n : Nat} {s : ST} : surv c sky b (n + 1) s ↔ ∃ x, x ∈ en c sky b s ∧ surv c sky b n x.2 := Iff.rfl
theorem surv_mono {c : KC} {sky b : Nat} : ∀ n s, surv c sky b (n + 1) s → surv c sky b n s := by
  intro n
  induction n with
  | zero => intro s _; trivial
  | succ n ih =>
    intro s h
    obtain ⟨x, h1, h2⟩ := surv_s.mp h
    exact surv_s.mpr ⟨x, h1, ih x.2 h2⟩
theorem surv_le {c : KC} {sky b : Nat} {s : ST} {m : Nat} : ∀ {n : Nat}, m ≤ n → surv c sky b n s → surv c sky b m s := by
  intro n hn
  induction hn with
  | refl => exact fun h => h
  | step _ ih => exact fun h => ih (surv_mono _ _ h)
def endl (c : KC) (sky b : Nat) (s : ST) : Prop := ∀ n, surv c sky b n s
def valS (c : KC) (sky b : Nat) (s : ST) (v : Nat) : Prop := surv c sky b v s ∧ ¬ surv c sky b (v + 1) s
theorem surv_stab {c : KC} {sky b : Nat} (hK : okK c) {s : ST} (hs : okS c s) (h : surv c sky b (szC c) s) : endl c sky b s := by
  refine stabS (c := c) hK (P := surv c sky b) surv_mono ?_ s hs h
  intro n hn s hs hp
  obtain ⟨x, h1, h2⟩ := hp
  exact ⟨x, h1, hn x.2 (en_ok hs h1) h2⟩
theorem valS_lt {c : KC} {sky b : Nat} (hK : okK c) {s : ST} (hs : okS c s) {v : Nat} (h : valS c sky b s v) : v < szC c := by
  by_cases q : v < szC c
  · exact q
  · exact absurd (surv_stab hK hs (surv_le (by omega) h.1) (v + 1)) h.2
theorem valS_uniq {c : KC} {sky b : Nat} {s : ST} {u v : Nat} (h : valS c sky b s u) (g : valS c sky b s v) : u = v := by
  by_cases q : u < v
  · exact absurd (surv_le (by omega) g.1) h.2
  · by_cases q' : v < u
    · exact absurd (surv_le (by omega) h.1) g.2
    · omega
theorem endl_val {c : KC} {sky b : Nat} {s : ST} (h : endl c sky b s) {v : Nat} (g : valS c sky b s v) : False := g.2 (h _)
theorem val_ex {c : KC} {sky b : Nat} {s : ST} (h : ¬ endl c sky b s) : ∃ v, valS c sky b s v := by
  have : ∃ n, ¬ surv c sky b n s := Classical.byContradiction (fun z => h (fun n => Classical.byContradiction (fun y => z ⟨n, y⟩)))
  obtain ⟨n, hn⟩ := this
  induction n with
  | zero => exact absurd trivial hn
  | succ n ih =>
    by_cases q : surv c sky b n s
    · exact ⟨n, q, hn⟩
    · exact ih q
/-- an endless stand has an endless one behind it -/
theorem endl_next {c : KC} {sky b : Nat} {s : ST} (h : endl c sky b s) : ∃ x, x ∈ en c sky b s ∧ endl c sky b x.2 := by
  refine Classical.byContradiction (fun z => ?_)
  have g : ∀ x, x ∈ en c sky b s → ∃ n, ¬ surv c sky b n x.2 := fun x hx => Classical.byContradiction (fun y => z ⟨x, hx, fun n => Classical.byContradiction (fun w => y ⟨n, w⟩)⟩)
  have : ∃ m, ∀ x, x ∈ en c sky b s → ¬ surv c sky b m x.2 := by
    generalize en c sky b s = L at g
    clear z h
    induction L with
    | nil => exact ⟨0, fun x hx => by cases hx⟩
    | cons a r ih =>
      obtain ⟨m, hm⟩ := ih (fun x hx => g x (List.mem_cons_of_mem _ hx))
      obtain ⟨n, hn⟩ := g a (List.mem_cons_self)
      refine ⟨m + n, fun x hx => ?_⟩
      rcases List.mem_cons.mp hx with e | e
      · rw [e]; exact fun w => hn (surv_le (by omega) w)
      · exact fun w => hm x e (surv_le (by omega) w)
  obtain ⟨m, hm⟩ := this
  obtain ⟨x, h1, h2⟩ := h (m + 1)
  exact hm x h1 h2
/-- a set of stands each of which has one of the set, or an endless one, behind it, is endless -/
theorem endl_of {c : KC} {sky b : Nat} {U : ST → Prop} (h : ∀ s, U s → ∃ x, x ∈ en c sky b s ∧ (U x.2 ∨ endl c sky b x.2)) : ∀ s, U s → endl c sky b s := by
  have : ∀ n s, U s → surv c sky b n s := by
    intro n
    induction n with
    | zero => intro s _; trivial
    | succ n ih =>
      intro s hs
      obtain ⟨x, h1, h2⟩ := h s hs
      refine ⟨x, h1, ?_⟩
      rcases h2 with q | q
      · exact ih _ q
      · exact q n
  exact fun s hs n => this n s hs
/-- coming: a goal behind just n hours -/
def rchG (c : KC) (sky : Nat) (G : ST → Prop) : Nat → ST → Prop
  | 0, s => G s
  | n + 1, s => ∃ x, x ∈ nx c sky s ∧ rchG c sky G n x.2
def leG (c : KC) (sky : Nat) (G : ST → Prop) (n : Nat) (s : ST) : Prop := ∃ m, m ≤ n ∧ rchG c sky G m s
def dstG (c : KC) (sky : Nat) (G : ST → Prop) (s : ST) (n : Nat) : Prop := rchG c sky G n s ∧ ∀ m, m < n → ¬ rchG c sky G m s
theorem dst_uniq {c : KC} {sky : Nat} {G : ST → Prop} {s : ST} {m n : Nat} (h : dstG c sky G s m) (g : dstG c sky G s n) : m = n := by
  by_cases q : m < n
  · exact absurd h.1 (g.2 m q)
  · by_cases q' : n < m
    · exact absurd g.1 (h.2 n q')
    · omega
theorem dst_ex {c : KC} {sky : Nat} {G : ST → Prop} {s : ST} {n : Nat} (h : rchG c sky G n s) : ∃ m, m ≤ n ∧ dstG c sky G s m := by
  induction n using Nat.strongRecOn with
  | _ n ih =>
    by_cases q : ∃ m, m < n ∧ rchG c sky G m s
    · obtain ⟨m, h1, h2⟩ := q
      obtain ⟨k, g1, g2⟩ := ih m h1 h2
      exact ⟨k, by omega, g2⟩
    · exact ⟨n, Nat.le_refl _, h, fun m hm z => q ⟨m, hm, z⟩⟩
theorem rch_stab {c : KC} {sky : Nat} {G : ST → Prop} (hK : okK c) {s : ST} (hs : okS c s) {n : Nat} (h : rchG c sky G n s) : leG c sky G (szC c) s := by
  refine Classical.byContradiction (fun z => ?_)
  have := stabS (c := c) hK (P := fun n s => ¬ leG c sky G n s) (fun n s hp => fun ⟨m, h1, h2⟩ => hp ⟨m, by omega, h2⟩) ?_ s hs z n
  · exact this ⟨n, Nat.le_refl _, h⟩
  · intro n hn s hs hp ⟨m, h1, h2⟩
    cases m with
    | zero => exact hp ⟨0, by omega, h2⟩
    | succ m =>
      obtain ⟨x, g1, g2⟩ := h2
      by_cases q : leG c sky G n x.2
      · obtain ⟨k, k1, k2⟩ := q
        exact hp ⟨k + 1, by omega, x, g1, k2⟩
      · exact hn x.2 (nx_ok hs g1) q ⟨m, by omega, g2⟩
theorem dst_lt {c : KC} {sky : Nat} {G : ST → Prop} (hK : okK c) {s : ST} (hs : okS c s) {n : Nat} (h : dstG c sky G s n) : n ≤ szC c := by
  obtain ⟨m, h1, h2⟩ := rch_stab hK hs h.1
  by_cases q : n ≤ szC c
  · exact q
  · exact absurd h2 (h.2 m (by omega))
/-- the beast -/
def survB (c : KC) (sky : Nat) : Nat → ST → Prop
  | 0, _ => True
  | n + 1, s => ∃ x, x ∈ nx c sky s ∧ 2 ≤ bearS c x.2 ∧ survB c sky n x.2 ∧ ∀ p, p < kN c → survB c sky n (weakS x.2 p)
theorem survB_s {c : KC} {sky n : Nat} {s : ST} : survB c sky (n + 1) s ↔ ∃ x, x ∈ nx c sky s ∧ 2 ≤ bearS c x.2 ∧ survB c sky n x.2 ∧ ∀ p, p < kN c → survB c sky n (weakS x.2 p) := Iff.rfl
theorem survB_mono {c : KC} {sky : Nat} : ∀ n s, survB c sky (n + 1) s → survB c sky n s := by
  intro n
  induction n with
  | zero => intro s _; trivial
  | succ n ih =>
    intro s h
    obtain ⟨x, h1, h2, h3, h4⟩ := survB_s.mp h
    exact survB_s.mpr ⟨x, h1, h2, ih x.2 h3, fun p hp => ih _ (h4 p hp)⟩
theorem survB_le {c : KC} {sky : Nat} {s : ST} {m : Nat} : ∀ {n : Nat}, m ≤ n → survB c sky n s → survB c sky m s := by
  intro n hn
  induction hn with
  | refl => exact fun h => h
  | step _ ih => exact fun h => ih (survB_mono _ _ h)
theorem survB_stab {c : KC} {sky : Nat} (hK : okK c) {s : ST} (hs : okS c s) (h : survB c sky (szC c) s) : ∀ n, survB c sky n s := by
  refine stabS (c := c) hK (P := survB c sky) survB_mono ?_ s hs h
  intro n hn s hs hp
  obtain ⟨x, h1, h2, h3, h4⟩ := hp
  have hx := nx_ok hs h1
  exact ⟨x, h1, h2, hn x.2 hx h3, fun p hp => hn _ (weakS_ok hx hp) (h4 p hp)⟩
def valB (c : KC) (sky : Nat) (s : ST) (v : Nat) : Prop := survB c sky v s ∧ ¬ survB c sky (v + 1) s
theorem valB_lt {c : KC} {sky : Nat} (hK : okK c) {s : ST} (hs : okS c s) {v : Nat} (h : valB c sky s v) : v < szC c := by
  by_cases q : v < szC c
  · exact q
  · exact absurd (survB_stab hK hs (survB_le (by omega) h.1) (v + 1)) h.2
theorem valB_uniq {c : KC} {sky : Nat} {s : ST} {u v : Nat} (h : valB c sky s u) (g : valB c sky s v) : u = v := by
  by_cases q : u < v
  · exact absurd (survB_le (by omega) g.1) h.2
  · by_cases q' : v < u
    · exact absurd (survB_le (by omega) h.1) g.2
    · omega
theorem valB_ex {c : KC} {sky : Nat} {s : ST} (h : ¬ ∀ n, survB c sky n s) : ∃ v, valB c sky s v := by
  have : ∃ n, ¬ survB c sky n s := Classical.byContradiction (fun z => h (fun n => Classical.byContradiction (fun y => z ⟨n, y⟩)))
  obtain ⟨n, hn⟩ := this
  induction n with
  | zero => exact absurd trivial hn
  | succ n ih =>
    by_cases q : survB c sky n s
    · exact ⟨n, q, hn⟩
    · exact ih q

/-! AN HOUR: moves 0 to 18, what each brings -/
def bearN (s : ST) (p : Nat) : Nat := if p = s.1 then 1 else 0
theorem bearN_lt {s : ST} {p : Nat} : bearN s p < 2 := by unfold bearN; split <;> omega
noncomputable def tiredS (c : KC) (sky : Nat) (s : ST) (goer : Nat) : ST := (s.1, s.2.1, fun p => if p < kN c then tireV c sky p (s.2.2 p) (bearN s p) (s.2.1 p) (if p = goer then 1 else 0) else 0)
def baseM (s : ST) (m : Nat) : ST := if m = 0 then s else if m < 4 then (m - 1, s.2.1, s.2.2) else (s.1, fup s.2.1 ((m - 4) / 5) ((m - 4) % 5), s.2.2)
def goerM (m : Nat) : Nat := if m < 4 then 9 else (m - 4) / 5
noncomputable def toM (c : KC) (sky : Nat) (s : ST) (m : Nat) : ST := tiredS c sky (baseM s m) (goerM m)
def isMv (c : KC) (m : Nat) : Bool := decide (m = 0) || (decide (m < 4) && decide (m - 1 < kN c)) || (decide (4 ≤ m) && decide ((m - 4) / 5 < kN c) && decide ((m - 4) % 5 < kP c))
def wayB (c : KC) (a b : Nat) : Bool := decide (kWay c a / 2 ^ b % 2 = 1)
noncomputable def whyM (c : KC) (sky : Nat) (s : ST) (m : Nat) : Nat :=
  if downB c s then 2 else if m = 0 then 0
  else if m < 4 then (if m - 1 = s.1 ∨ s.2.1 (m - 1) ≠ s.2.1 s.1 then 3 else if s.2.2 (m - 1) = 0 then 4 else 0)
  else if wayB c (s.2.1 ((m - 4) / 5)) ((m - 4) % 5) then (if mayV c sky ((m - 4) / 5) (s.2.2 ((m - 4) / 5)) (bearN s ((m - 4) / 5)) (s.2.1 ((m - 4) / 5)) ((m - 4) % 5) then 0 else 4) else 3
noncomputable def canM (c : KC) (sky : Nat) (s : ST) (m : Nat) : Bool := isMv c m && decide (whyM c sky s m = 0)
def deedM (m : Nat) : Nat := if m = 0 then 0 else if m < 4 then 9 + m else 100 + 10 * ((m - 4) / 5) + (m - 4) % 5
noncomputable def nxTo (c : KC) (sky : Nat) (s : ST) : Nat → List (Nat × ST)
  | 0 => []
  | m + 1 => nxTo c sky s m ++ (if canM c sky s m then [(deedM m, toM c sky s m)] else [])
noncomputable def nx (c : KC) (sky : Nat) (s : ST) : List (Nat × ST) := nxTo c sky s 19
theorem isMv_0 {c : KC} : isMv c 0 = true := by simp [isMv]
theorem isMv_h {c : KC} {m : Nat} (h1 : 1 ≤ m) (h2 : m < 4) : isMv c m = decide (m - 1 < kN c) := by
  unfold isMv
  rw [decide_eq_false (show ¬ m = 0 by omega), decide_eq_true h2, decide_eq_false (show ¬ 4 ≤ m by omega)]
  simp
theorem isMv_g {c : KC} {p to : Nat} (hto : to < 5) : isMv c (4 + 5 * p + to) = (decide (p < kN c) && decide (to < kP c)) := by
  unfold isMv
  rw [decide_eq_false (show ¬ 4 + 5 * p + to = 0 by omega), decide_eq_false (show ¬ 4 + 5 * p + to < 4 by omega), decide_eq_true (show 4 ≤ 4 + 5 * p + to by omega)]
  rw [show (4 + 5 * p + to - 4) / 5 = p by omega, show (4 + 5 * p + to - 4) % 5 = to by omega]
  simp
theorem canM_no {c : KC} {sky : Nat} {s : ST} {m : Nat} (h : isMv c m = false) : canM c sky s m = false := by unfold canM; rw [h]; rfl
theorem nxTo_no {c : KC} {sky : Nat} {s : ST} {m : Nat} (h : canM c sky s m = false) : nxTo c sky s (m + 1) = nxTo c sky s m := by
  show nxTo c sky s m ++ _ = _
  rw [h]; simp
theorem nxTo_yes {c : KC} {sky : Nat} {s : ST} {m : Nat} (h : canM c sky s m = true) : nxTo c sky s (m + 1) = nxTo c sky s m ++ [(deedM m, toM c sky s m)] := by
  show nxTo c sky s m ++ _ = _
  rw [h]; simp
theorem nxTo_hands {c : KC} {sky : Nat} {s : ST} (hK : okK c) : nxTo c sky s 4 = nxTo c sky s (1 + kN c) := by
  have hN := hK.2.2
  have e : ∀ r m, m + r = 4 → 1 + kN c ≤ m → nxTo c sky s 4 = nxTo c sky s m := by
    intro r
    induction r with
    | zero => intro m hm _; rw [show m = 4 by omega]
    | succ r ih =>
      intro m hm h1
      rw [ih (m + 1) (by omega) (by omega)]
      exact nxTo_no (canM_no (by rw [isMv_h (by omega) (by omega)]; exact decide_eq_false (by omega)))
  exact e (3 - kN c) _ (by omega) (by omega)
theorem nxTo_skip {c : KC} {sky : Nat} {s : ST} {p : Nat} (hK : okK c) (hp : p < 3) : nxTo c sky s (4 + 5 * (p + 1)) = nxTo c sky s (4 + 5 * p + kP c) := by
  have hP := hK.2.1
  have e : ∀ r to, to + r = 5 → kP c ≤ to → nxTo c sky s (4 + 5 * (p + 1)) = nxTo c sky s (4 + 5 * p + to) := by
    intro r
    induction r with
    | zero => intro to ht _; rw [show to = 5 by omega]; congr 1
    | succ r ih =>
      intro to ht h1
      rw [ih (to + 1) (by omega) (by omega)]
      exact nxTo_no (m := 4 + 5 * p + to) (canM_no (by rw [isMv_g (by omega), decide_eq_false (show ¬ to < kP c by omega)]; simp))
  exact e (5 - kP c) _ (by omega) (by omega)
theorem nxTo_end {c : KC} {sky : Nat} {s : ST} (hK : okK c) : nx c sky s = nxTo c sky s (4 + 5 * kN c) := by
  have hN := hK.2.2
  have e : ∀ r m, m + r = 19 → 4 + 5 * kN c ≤ m → nxTo c sky s 19 = nxTo c sky s m := by
    intro r
    induction r with
    | zero => intro m hm _; rw [show m = 19 by omega]
    | succ r ih =>
      intro m hm h1
      rw [ih (m + 1) (by omega) (by omega)]
      refine nxTo_no (canM_no ?_)
      have := isMv_g (c := c) (p := (m - 4) / 5) (to := (m - 4) % 5) (by omega)
      rw [show 4 + 5 * ((m - 4) / 5) + (m - 4) % 5 = m by omega] at this
      rw [this, decide_eq_false (show ¬ (m - 4) / 5 < kN c by omega)]
      rfl
  exact e (19 - (4 + 5 * kN c)) _ (by omega) (by omega)
theorem nxTo_down {c : KC} {sky : Nat} {s : ST} (hd : downB c s = true) : ∀ m, nxTo c sky s m = []
  | 0 => rfl
  | m + 1 => by
    rw [nxTo_no, nxTo_down hd m]
    unfold canM whyM
    rw [hd]
    simp
theorem nxTo_len1 {c : KC} {sky : Nat} {s : ST} {m : Nat} : (nxTo c sky s (m + 1)).length ≤ (nxTo c sky s m).length + 1 := by
  show (nxTo c sky s m ++ _).length ≤ _
  rw [List.length_append]
  split <;> simp
theorem canM_b {c : KC} {sky : Nat} {s : ST} (hs : s.1 < 3) : canM c sky s (s.1 + 1) = false := by
  unfold canM whyM
  by_cases h : downB c s = true
  · simp [h]
  · rw [if_neg h, if_neg (by omega), if_pos (by omega), if_pos (Or.inl (by omega))]
    simp
theorem canM_self {c : KC} {sky : Nat} {s : ST} {p : Nat} (hO : okC c) (h5 : s.2.1 p < 5) : canM c sky s (4 + 5 * p + s.2.1 p) = false := by
  unfold canM whyM
  have e1 : (4 + 5 * p + s.2.1 p - 4) / 5 = p := by omega
  have e2 : (4 + 5 * p + s.2.1 p - 4) % 5 = s.2.1 p := by omega
  by_cases h : downB c s = true
  · simp [h]
  · rw [if_neg h, if_neg (by omega), if_neg (by omega), e1, e2]
    have := hO.2.2.2.2.2.2.2.2.2.1 (s.2.1 p)
    have w0 : wayB c (s.2.1 p) (s.2.1 p) = false := by unfold wayB; rw [this]; rfl
    rw [w0]
    simp
theorem nxTo_len4 {c : KC} {sky : Nat} {s : ST} (hs : s.1 < 3) : (nxTo c sky s 4).length ≤ 3 := by
  have l0 := nxTo_len1 (c := c) (sky := sky) (s := s) (m := 0)
  have l1 := nxTo_len1 (c := c) (sky := sky) (s := s) (m := 1)
  have l2 := nxTo_len1 (c := c) (sky := sky) (s := s) (m := 2)
  have l3 := nxTo_len1 (c := c) (sky := sky) (s := s) (m := 3)
  have z : (nxTo c sky s 0).length = 0 := rfl
  have n := congrArg List.length (nxTo_no (canM_b (c := c) (sky := sky) hs))
  rcases (by omega : s.1 = 0 ∨ s.1 = 1 ∨ s.1 = 2) with q | q | q <;> rw [q] at n <;> simp only [Nat.reduceAdd] at n l0 l1 l2 l3 <;> omega
theorem nxTo_len5 {c : KC} {sky : Nat} {s : ST} {p : Nat} (hO : okC c) (h5 : s.2.1 p < 5) : (nxTo c sky s (4 + 5 * (p + 1))).length ≤ (nxTo c sky s (4 + 5 * p)).length + 4 := by
  have l0 := nxTo_len1 (c := c) (sky := sky) (s := s) (m := 4 + 5 * p + 0)
  have l1 := nxTo_len1 (c := c) (sky := sky) (s := s) (m := 4 + 5 * p + 1)
  have l2 := nxTo_len1 (c := c) (sky := sky) (s := s) (m := 4 + 5 * p + 2)
  have l3 := nxTo_len1 (c := c) (sky := sky) (s := s) (m := 4 + 5 * p + 3)
  have l4 := nxTo_len1 (c := c) (sky := sky) (s := s) (m := 4 + 5 * p + 4)
  have n := congrArg List.length (nxTo_no (canM_self (c := c) (sky := sky) (p := p) hO h5))
  rw [show 4 + 5 * (p + 1) = 4 + 5 * p + 4 + 1 by omega]
  rcases (by omega : s.2.1 p = 0 ∨ s.2.1 p = 1 ∨ s.2.1 p = 2 ∨ s.2.1 p = 3 ∨ s.2.1 p = 4) with q | q | q | q | q <;> rw [q] at n <;> simp only [Nat.add_zero, Nat.add_assoc, Nat.reduceAdd] at n l0 l1 l2 l3 l4 ⊢ <;> omega
theorem nxTo_mono {c : KC} {sky : Nat} {s : ST} : ∀ {r m : Nat}, (nxTo c sky s m).length ≤ (nxTo c sky s (m + r)).length
  | 0, m => Nat.le_refl _
  | r + 1, m => by
    refine Nat.le_trans (nxTo_mono (r := r) (m := m)) ?_
    show _ ≤ (nxTo c sky s (m + r) ++ _).length
    rw [List.length_append]; omega
theorem nxTo_len {c : KC} {sky : Nat} {s : ST} (hO : okC c) (hs : okS c s) {m : Nat} (hm : m ≤ 19) : (nxTo c sky s m).length ≤ 15 := by
  have hK := hO.1
  obtain ⟨r1, r2⟩ := okS_R hK hs
  have h5 : ∀ p, s.2.1 p < 5 := fun p => by
    by_cases hp : p < kN c
    · have := (hs.1 p hp).1; have := hK.2.1; omega
    · have := (hs.2.1 p (by omega)).1; omega
  have a4 := nxTo_len4 (c := c) (sky := sky) (s := s) (by omega)
  have a9 := nxTo_len5 (c := c) (sky := sky) (s := s) (p := 0) hO (h5 0)
  have a14 := nxTo_len5 (c := c) (sky := sky) (s := s) (p := 1) hO (h5 1)
  have a19 := nxTo_len5 (c := c) (sky := sky) (s := s) (p := 2) hO (h5 2)
  simp only [Nat.reduceAdd, Nat.reduceMul] at a9 a14 a19
  have := nxTo_mono (c := c) (sky := sky) (s := s) (r := 19 - m) (m := m)
  rw [show m + (19 - m) = 19 by omega] at this
  omega
theorem tiredS_ok {c : KC} {sky : Nat} {s : ST} {g : Nat} (hs : okS c s) : okS c (tiredS c sky s g) := by
  obtain ⟨h1, h2, h3, h4⟩ := hs
  refine ⟨fun i hi => ⟨(h1 i hi).1, ?_⟩, fun i hi => ⟨(h2 i hi).1, ?_⟩, h3, h4⟩
  · show (if i < kN c then _ else 0) < 4
    rw [if_pos hi]; exact tireV_lt
  · show (if i < kN c then _ else 0) = 0
    rw [if_neg (by omega)]
theorem baseM_ok {c : KC} {s : ST} {m : Nat} (hs : okS c s) (hm : isMv c m = true) : okS c (baseM s m) := by
  unfold baseM
  by_cases h0 : m = 0
  · rw [if_pos h0]; exact hs
  · rw [if_neg h0]
    obtain ⟨h1, h2, h3, h4⟩ := hs
    by_cases hh : m < 4
    · rw [if_pos hh]
      rw [isMv_h (by omega) hh] at hm
      have := of_decide_eq_true hm
      exact ⟨h1, h2, fun z => by omega, fun _ => this⟩
    · rw [if_neg hh]
      have e := isMv_g (c := c) (p := (m - 4) / 5) (to := (m - 4) % 5) (by omega)
      rw [show 4 + 5 * ((m - 4) / 5) + (m - 4) % 5 = m by omega, hm] at e
      have e1 : (m - 4) / 5 < kN c := by
        by_cases q : (m - 4) / 5 < kN c
        · exact q
        · rw [decide_eq_false q] at e; simp at e
      have e2 : (m - 4) % 5 < kP c := by
        by_cases q : (m - 4) % 5 < kP c
        · exact q
        · rw [decide_eq_false q] at e; simp at e
      refine ⟨fun i hi => ⟨?_, (h1 i hi).2⟩, fun i hi => ⟨?_, (h2 i hi).2⟩, h3, h4⟩
      · show fup s.2.1 _ _ i < kP c
        by_cases q : i = (m - 4) / 5
        · rw [q, fup_self]; exact e2
        · rw [fup_ne q]; exact (h1 i hi).1
      · show fup s.2.1 _ _ i = 0
        rw [fup_ne (by omega)]; exact (h2 i hi).1
theorem toM_ok {c : KC} {sky : Nat} {s : ST} {m : Nat} (hs : okS c s) (hm : isMv c m = true) : okS c (toM c sky s m) := tiredS_ok (baseM_ok hs hm)
theorem canM_mv {c : KC} {sky : Nat} {s : ST} {m : Nat} (h : canM c sky s m = true) : isMv c m = true := by
  unfold canM at h
  exact (Bool.and_eq_true _ _ ▸ h).1
theorem nxTo_ok {c : KC} {sky : Nat} {s : ST} (hs : okS c s) : ∀ m, ∀ x, x ∈ nxTo c sky s m → okS c x.2
  | 0, x, hx => by cases hx
  | m + 1, x, hx => by
    by_cases h : canM c sky s m = true
    · rw [nxTo_yes h] at hx
      rcases List.mem_append.mp hx with q | q
      · exact nxTo_ok hs m x q
      · rw [List.mem_singleton] at q
        rw [q]; exact toM_ok hs (canM_mv h)
    · rw [nxTo_no (by simpa using h)] at hx
      exact nxTo_ok hs m x hx

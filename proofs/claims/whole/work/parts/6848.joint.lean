/-! READING LAWS: what both methods of a kind do from a state, together -/
def okq (n : Nat) (s : TS) : Prop := ∀ q, s = .inl q → q ≤ n
def prg (n : Nat) (s s' : TS) (L : List Int) : Prop := (∀ q', s' = .inl q' → ∃ q, s = .inl q ∧ q + L.length ≤ q' ∧ q' ≤ n) ∧ (∀ x, s = .inr x → s' = .inr x)
def CSpec (b : List Int) (n l cm pc : Nat) (tl : PL) (F : Nat) (s s' : TS) (L : List Int) : Prop :=
  ∀ (h : PH) (i j : Nat → Int) (A : Nat → Int → Int) (C : List Int), txE h → tapC b A → clT b n i (nrm b n s) → cdC j A C (alC b n s) → (∀ q, s = .inl q → C.length ≤ q) → j 17 = 16 + (l : Int) →
  ∃ i' j' A', clT b n i' (nrm b n s') ∧ cdC j' A' (C ++ L) (alC b n s') ∧ frI [3, 4, 5, 6, 7, 8] i i' ∧ frI [2] j j' ∧ frA [14] A A' ∧ ∀ d Q, F ≤ d → WP d cm pc (some (vr 13) :: tl) [] (rdH h i j A) Q = Q none (rdH h i' j' A')
def RSpec (b : List Int) (n l rm pc : Nat) (tl : PL) (G : Nat) (s s' : TS) (L : List Int) : Prop :=
  ∀ (h : PH) (i : Nat → Int) (A : Nat → Int → Int) (C : List Int) (m : Nat), txE h → tapM b A → rfT b n i s → (alR s → rdC m A l C) → (∀ q, s = .inl q → C.length ≤ q) → i 15 = (l : Int) →
  ∃ i' A', rfT b n i' s' ∧ (alR s' → rdC m A' l (C ++ L)) ∧ frI [6, 7, 9, 10, 11, 12] i i' ∧ frF m A A' ∧ ∀ d Q, G ≤ d → WP d rm pc (some (vr 71) :: tl) [] (mdH h i A) Q = Q none (mdH h i' A')
/-- both, by one state behind and one row of orders -/
def JN (b : List Int) (n l cm : Nat) (ct : PL) (F rm : Nat) (rt : PL) (G : Nat) (W : List Int → Prop) (deep : Nat) (s : TS) : Prop := ∃ (s' : TS) (L : List Int), prg n s s' L ∧ (alR s' → W L) ∧ CSpec b n l cm 0 (some (vi deep) :: ct) F s s' L ∧ RSpec b n l rm 0 (some (vi deep) :: rt) G s s' L
theorem tapC_fr {b : List Int} {A B : Nat → Int → Int} (h : tapC b A) (hf : frA [14] A B) : tapC b B := ⟨h.1, fun k x hx => by rw [hf 12 (by decide)]; exact h.2 k x hx⟩
theorem tapM_fr {b : List Int} {A B : Nat → Int → Int} {m : Nat} (h : tapM b A) (hf : frF m A B) : tapM b B := ⟨h.1, fun k x hx => by rw [hf.1 74 (by decide)]; exact h.2 k x hx⟩
theorem prg_t {n : Nat} {s s1 s2 : TS} {L1 L2 : List Int} (h1 : prg n s s1 L1) (h2 : prg n s1 s2 L2) : prg n s s2 (L1 ++ L2) := by
  refine ⟨fun q' e => ?_, fun x e => h2.2 x (h1.2 x e)⟩
  obtain ⟨q1, e1, a1, a2⟩ := h2.1 q' e
  obtain ⟨q, e0, b1, b2⟩ := h1.1 q1 e1
  exact ⟨q, e0, by rw [List.length_append]; omega, a2⟩
theorem prg_ok {n : Nat} {s s' : TS} {L : List Int} (h : prg n s s' L) : okq n s' := fun q' e => by
  obtain ⟨q, -, -, h3⟩ := h.1 q' e; exact h3
theorem prg_C {n : Nat} {s s' : TS} {L C : List Int} (h : prg n s s' L) (hC : ∀ q, s = .inl q → C.length ≤ q) : ∀ q', s' = .inl q' → (C ++ L).length ≤ q' := fun q' e => by
  obtain ⟨q, e0, h2, -⟩ := h.1 q' e
  have := hC q e0
  rw [List.length_append]; omega
-- what orders do
def wfS (k : Nat) (t : Bool) (L : List Int) : Prop := ∀ (fx : Nat → Int) (st : List Int), st.length + k ≤ 63 → ∃ v, evO fx L st (v :: st) ∧ (t = true → bit01 v)
def wfL (k : Nat) (t : Bool) (L : List Int) : Prop := ∀ (fx : Nat → Int) (st : List Int) (u : Int), st.length + k ≤ 63 → (t = true → bit01 u) → ∃ v, evO fx L (u :: st) (v :: st) ∧ (t = true → bit01 v)
theorem evO_app {fx : Nat → Int} : ∀ {L1 L2 st m st' : List Int}, evO fx L1 st m → evO fx L2 m st' → evO fx (L1 ++ L2) st st'
  | [], L2, st, m, st', h1, h2 => by cases h1; exact h2
  | o :: r, L2, st, m, st', ⟨x, h1, h3⟩, h2 => ⟨x, h1, evO_app h3 h2⟩
theorem evO_1 {fx : Nat → Int} {o : Int} {st st' : List Int} (h : stepO fx o st st') : evO fx [o] st st' := ⟨st', h, rfl⟩
theorem wfS_w {k k' : Nat} {t : Bool} {L : List Int} (h : wfS k t L) (hk : k ≤ k') : wfS k' t L := fun fx st hs => h fx st (by omega)
theorem wfS_f {k : Nat} {t : Bool} {L : List Int} (h : wfS k t L) : wfS k false L := fun fx st hs => by
  obtain ⟨v, h1, -⟩ := h fx st hs
  exact ⟨v, h1, fun z => by cases z⟩
theorem wf_num {k : Nat} {v : Int} (hk : 1 ≤ k) (h1 : 0 ≤ v) (h2 : v < 1000) : wfS k false [v] := fun fx st hs => ⟨v, evO_1 ⟨by omega, Or.inl ⟨h1, h2, rfl⟩⟩, fun z => by cases z⟩
theorem wf_fact {k : Nat} {f : Int} (hk : 1 ≤ k) (h1 : 0 ≤ f) (h2 : f < 7) : wfS k false [1000 + f] := fun fx st hs => ⟨fx f.toNat, evO_1 ⟨by omega, Or.inr (Or.inl ⟨f.toNat, by omega, by omega, rfl⟩)⟩, fun z => by cases z⟩
theorem joinV_bit {o x y : Int} (h1 : 1013 ≤ o) (h2 : o ≤ 1017) (hb : 1016 ≤ o → bit01 x ∧ bit01 y) : bit01 (joinV o x y) := by
  unfold joinV
  rw [if_neg (by omega), if_neg (by omega), if_neg (by omega)]
  split
  · split
    · exact Or.inr rfl
    · exact Or.inl rfl
  · split
    · split
      · exact Or.inr rfl
      · exact Or.inl rfl
    · split
      · split
        · exact Or.inr rfl
        · exact Or.inl rfl
      · obtain ⟨hx, hy⟩ := hb (by omega)
        rcases hx with e | e <;> rcases hy with f | f <;> subst e <;> subst f <;> split <;> first | exact Or.inl rfl | exact Or.inr rfl
theorem wf_bin {k : Nat} {t : Bool} {L2 : List Int} {o : Int} (hk : 3 ≤ k) (h2 : wfS (k - 1) t L2) (o1 : 1010 ≤ o) (o2 : o ≤ 1017) (ot : 1016 ≤ o → t = true) (ot2 : t = true → 1016 ≤ o) : wfL k t (L2 ++ [o]) := fun fx st u hs hu => by
  obtain ⟨v, e2, b2⟩ := h2 fx (u :: st) (by show st.length + 1 + (k - 1) ≤ 63; omega)
  exact ⟨joinV o u v, evO_app e2 (evO_1 ⟨by show st.length + 1 + 1 < 63; omega, Or.inr (Or.inr (Or.inr (Or.inr ⟨v, u, st, o1, o2, rfl, fun z => ⟨hu (ot z), b2 (ot z)⟩, rfl⟩)))⟩), fun z => joinV_bit (by have := ot2 z; omega) o2 (fun _ => ⟨hu z, b2 z⟩)⟩
theorem wf_nil {k : Nat} {t : Bool} : wfL k t [] := fun fx st u _ hu => ⟨u, rfl, hu⟩
theorem wf_ll {k : Nat} {t : Bool} {L1 L2 : List Int} (h1 : wfL k t L1) (h2 : wfL k t L2) : wfL k t (L1 ++ L2) := fun fx st u hs hu => by
  obtain ⟨v, e1, b1⟩ := h1 fx st u hs hu
  obtain ⟨v2, e2, b2⟩ := h2 fx st v hs b1
  exact ⟨v2, evO_app e1 e2, b2⟩
theorem wf_sl {k : Nat} {t : Bool} {L1 L2 : List Int} (h1 : wfS k t L1) (h2 : wfL k t L2) : wfS k t (L1 ++ L2) := fun fx st hs => by
  obtain ⟨v, e1, b1⟩ := h1 fx st hs
  obtain ⟨v2, e2, b2⟩ := h2 fx st v hs b1
  exact ⟨v2, evO_app e1 e2, b2⟩
theorem wf_cmp {k : Nat} {L1 L2 : List Int} {o : Int} (hk : 3 ≤ k) (h1 : wfS k false L1) (h2 : wfS (k - 1) false L2) (o1 : 1013 ≤ o) (o2 : o ≤ 1015) : wfS k true (L1 ++ L2 ++ [o]) := fun fx st hs => by
  obtain ⟨u, e1, -⟩ := h1 fx st hs
  obtain ⟨v, e2, -⟩ := h2 fx (u :: st) (by show st.length + 1 + (k - 1) ≤ 63; omega)
  exact ⟨joinV o u v, evO_app (evO_app e1 e2) (evO_1 ⟨by show st.length + 1 + 1 < 63; omega, Or.inr (Or.inr (Or.inr (Or.inr ⟨v, u, st, by omega, by omega, rfl, fun z => by omega, rfl⟩)))⟩), fun _ => joinV_bit o1 (by omega) (fun z => by omega)⟩
theorem wf_not {k : Nat} {L : List Int} (hk : 2 ≤ k) (h : wfS k true L) : wfS k true (L ++ [1018]) := fun fx st hs => by
  obtain ⟨u, e1, b1⟩ := h fx st hs
  have hb := b1 rfl
  exact ⟨1 - u, evO_app e1 (evO_1 ⟨by show st.length + 1 < 63; omega, Or.inr (Or.inr (Or.inl ⟨u, st, rfl, rfl, hb, rfl⟩))⟩), fun _ => by unfold bit01 at *; omega⟩
theorem wf_if {k : Nat} {L1 L2 L3 : List Int} (hk : 4 ≤ k) (h1 : wfS k true L1) (h2 : wfS (k - 1) false L2) (h3 : wfS (k - 2) false L3) : wfS k false (L1 ++ L2 ++ L3 ++ [1019]) := fun fx st hs => by
  obtain ⟨u, e1, b1⟩ := h1 fx st hs
  obtain ⟨v, e2, -⟩ := h2 fx (u :: st) (by show st.length + 1 + (k - 1) ≤ 63; omega)
  obtain ⟨x, e3, -⟩ := h3 fx (v :: u :: st) (by show st.length + 1 + 1 + (k - 2) ≤ 63; omega)
  exact ⟨if u = 1 then v else x, evO_app (evO_app (evO_app e1 e2) e3) (evO_1 ⟨by show st.length + 1 + 1 + 1 < 63; omega, Or.inr (Or.inr (Or.inr (Or.inl ⟨x, v, u, st, rfl, rfl, b1 rfl, rfl⟩)))⟩), fun z => by cases z⟩

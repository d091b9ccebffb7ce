/-! Keeping: the search's steps -/
def slI (c : KC) (sky b : Nat) (kn : Int → Int) (P D : List ST) (t0 : ST) : Prop := knI c sky b kn P ∧ (∀ t, t ∈ P ++ D → okS c t) ∧ ((P ++ D).map (encC c)).Nodup ∧ chn c sky b P ∧ (∀ t, t ∈ D → kn (encC c t) ≠ 0) ∧ t0 ∈ P ++ D
theorem sl_len {c : KC} {sky b : Nat} {kn : Int → Int} {P D : List ST} {t0 : ST} (hK : okK c) (h : slI c sky b kn P D t0) : P.length + D.length ≤ szC c := by
  have := nodup_le (n := szC c) h.2.2.1 (fun y hy => by
    obtain ⟨x, h1, h2⟩ := List.mem_map.mp hy
    rw [← h2]; exact encC_lt hK (h.2.1 x h1))
  rw [List.length_map, List.length_append] at this
  exact this
theorem sl_start {c : KC} {sky b : Nat} {kn : Int → Int} {s : ST} (hK : okK c) (hs : okS c s) (hI : knI c sky b kn []) : slI c sky b (fset kn (encC c s : Nat) (-1)) [s] [] s := by
  refine ⟨fun t ht => ?_, fun t ht => ?_, by simp, fun j u t h1 h2 => ?_, (fun t ht => by cases ht), by simp⟩
  · by_cases z : t = s
    · right; left
      rw [z]
      exact ⟨fs_same, by simp⟩
    · have hne : ¬ t ∈ [s] := fun w => z (List.mem_singleton.mp w)
      have he : (encC c t : Int) ≠ (encC c s : Nat) := fun w => z (encC_inj hK ht hs (by omega))
      rw [fs_ne he]
      rcases hI t ht with ⟨h, -⟩ | ⟨-, h⟩ | ⟨h, h2, -⟩ | ⟨v, h, h2, -⟩
      · exact Or.inl ⟨h, hne⟩
      · cases h
      · exact Or.inr (Or.inr (Or.inl ⟨h, h2, hne⟩))
      · exact Or.inr (Or.inr (Or.inr ⟨v, h, h2, hne⟩))
  · have : t = s := by simpa using ht
    rw [this]; exact hs
  · have := (List.getElem?_eq_some_iff.mp h2).1
    simp only [List.length_singleton] at this
    omega
theorem sl_push {c : KC} {sky b : Nat} {kn : Int → Int} {P D : List ST} {t0 s : ST} {x : Nat × ST} (hK : okK c) (h : slI c sky b kn (P ++ [s]) D t0) (hx : x ∈ en c sky b s) (h0 : kn (encC c x.2) = 0) : slI c sky b (fset kn (encC c x.2 : Nat) (-1)) ((P ++ [s]) ++ [x.2]) D t0 := by
  obtain ⟨h1, h2, h3, h4, h5, h6⟩ := h
  have hso := h2 s (by simp)
  have hxo := en_ok hso hx
  have hnP : ¬ x.2 ∈ P ++ [s] := by
    rcases h1 x.2 hxo with ⟨-, z⟩ | ⟨z, -⟩ | ⟨z, -⟩ | ⟨v, z, -⟩
    · exact z
    · omega
    · omega
    · omega
  have hnD : ¬ x.2 ∈ D := fun z => h5 _ z h0
  refine ⟨fun t ht => ?_, fun t ht => ?_, ?_, fun j u t g1 g2 => ?_, fun t ht => ?_, ?_⟩
  · by_cases z : t = x.2
    · right; left
      rw [z]
      exact ⟨fs_same, by simp⟩
    · have he : (encC c t : Int) ≠ (encC c x.2 : Nat) := fun w => z (encC_inj hK ht hxo (by omega))
      have mem : t ∈ (P ++ [s]) ++ [x.2] ↔ t ∈ P ++ [s] := ⟨fun w => by
        rcases List.mem_append.mp w with y | y
        · exact y
        · exact absurd (List.mem_singleton.mp y) z, fun w => List.mem_append.mpr (Or.inl w)⟩
      rw [fs_ne he, mem]
      exact h1 t ht
  · rcases List.mem_append.mp ht with y | y
    · rcases List.mem_append.mp y with y | y
      · exact h2 t (List.mem_append.mpr (Or.inl y))
      · rw [List.mem_singleton.mp y]; exact hxo
    · exact h2 t (List.mem_append.mpr (Or.inr y))
  · have hp : (((P ++ [s]) ++ [x.2] ++ D).map (encC c)).Perm (encC c x.2 :: ((P ++ [s]) ++ D).map (encC c)) := by
      rw [← List.map_cons]
      refine List.Perm.map _ ?_
      rw [List.append_assoc (P ++ [s])]
      exact List.perm_middle
    rw [hp.nodup_iff, List.nodup_cons]
    refine ⟨fun w => ?_, h3⟩
    obtain ⟨t, t1, t2⟩ := List.mem_map.mp w
    have := encC_inj hK (h2 t t1) hxo t2
    rw [this] at t1
    rcases List.mem_append.mp t1 with y | y
    · exact hnP y
    · exact hnD y
  · have g2l := (List.getElem?_eq_some_iff.mp g2).1
    rw [List.length_append] at g2l
    simp only [List.length_singleton] at g2l
    by_cases z : j + 1 < (P ++ [s]).length
    · rw [List.getElem?_append_left z] at g2
      rw [List.getElem?_append_left (by omega)] at g1
      exact h4 j u t g1 g2
    · have hj : j + 1 = (P ++ [s]).length := by omega
      rw [List.getElem?_append_right (by omega), hj, Nat.sub_self] at g2
      have et : t = x.2 := by cases g2; rfl
      rw [List.getElem?_append_left (by omega)] at g1
      have hj' : j = P.length := by rw [List.length_append] at hj; simp only [List.length_singleton] at hj; omega
      rw [hj', List.getElem?_append_right (Nat.le_refl _), Nat.sub_self] at g1
      have eu : u = s := by cases g1; rfl
      rw [eu, et]
      exact ⟨x, hx, rfl⟩
  · have hto := h2 t (List.mem_append.mpr (Or.inr ht))
    have he : (encC c t : Int) ≠ (encC c x.2 : Nat) := fun w => hnD (by rw [← encC_inj hK hto hxo (by omega)]; exact ht)
    rw [fs_ne he]
    exact h5 t ht
  · rcases List.mem_append.mp h6 with y | y
    · exact List.mem_append.mpr (Or.inl (List.mem_append.mpr (Or.inl y)))
    · exact List.mem_append.mpr (Or.inr y)
theorem sl_pop {c : KC} {sky b m : Nat} {kn : Int → Int} {P D : List ST} {t0 s : ST} (hK : okK c) (h : slI c sky b kn (P ++ [s]) D t0) (hv : valS c sky b s m) : slI c sky b (fset kn (encC c s : Nat) ((m + 1 : Nat) : Int)) P (s :: D) t0 := by
  obtain ⟨h1, h2, h3, h4, h5, h6⟩ := h
  have hso := h2 s (by simp)
  have hap : (P ++ [s]) ++ D = P ++ (s :: D) := by rw [List.append_assoc]; rfl
  have h3' := h3
  rw [hap] at h2 h3 h6
  have hnP : ¬ s ∈ P := fun z => by
    rw [List.map_append, List.nodup_append] at h3
    exact h3.2.2 _ (List.mem_map_of_mem z) _ (List.mem_map_of_mem List.mem_cons_self) rfl
  refine ⟨fun t ht => ?_, h2, h3, fun j u t g1 g2 => ?_, fun t ht => ?_, h6⟩
  · by_cases z : t = s
    · right; right; right
      rw [z]
      exact ⟨m, fs_same, hv, hnP⟩
    · have he : (encC c t : Int) ≠ (encC c s : Nat) := fun w => z (encC_inj hK ht hso (by omega))
      have mem : t ∈ P ++ [s] ↔ t ∈ P := ⟨fun w => by
        rcases List.mem_append.mp w with y | y
        · exact y
        · exact absurd (List.mem_singleton.mp y) z, fun w => List.mem_append.mpr (Or.inl w)⟩
      have := h1 t ht
      rw [mem] at this
      rw [fs_ne he]
      exact this
  · exact h4 j u t (app_some g1) (app_some g2)
  · by_cases z : t = s
    · rw [z, fs_same]; omega
    · have hto := h2 t (List.mem_append.mpr (Or.inr ht))
      have he : (encC c t : Int) ≠ (encC c s : Nat) := fun w => z (encC_inj hK hto hso (by omega))
      rw [fs_ne he]
      rcases List.mem_cons.mp ht with y | y
      · exact absurd y z
      · exact h5 t y
theorem sl_all {c : KC} {sky b : Nat} {kn kn' : Int → Int} {P D : List ST} {t0 : ST} (h : slI c sky b kn P D t0) (he : ∀ t, t ∈ P → endl c sky b t) (h1' : ∀ t, t ∈ P → kn' (encC c t) = 2147483647) (h2' : ∀ t, okS c t → ¬ t ∈ P → kn' (encC c t) = kn (encC c t)) : slI c sky b kn' [] (P ++ D) t0 := by
  obtain ⟨h1, h2, h3, h4, h5, h6⟩ := h
  refine ⟨fun t ht => ?_, h2, h3, (fun j u t g1 _ => by simp at g1), fun t ht => ?_, h6⟩
  · by_cases z : t ∈ P
    · exact Or.inr (Or.inr (Or.inl ⟨h1' t z, he t z, fun w => by cases w⟩))
    · rw [h2' t ht z]
      rcases h1 t ht with ⟨w, -⟩ | ⟨-, w⟩ | ⟨w, w2, -⟩ | ⟨v, w, w2, -⟩
      · exact Or.inl ⟨w, fun w => by cases w⟩
      · exact absurd w z
      · exact Or.inr (Or.inr (Or.inl ⟨w, w2, fun w => by cases w⟩))
      · exact Or.inr (Or.inr (Or.inr ⟨v, w, w2, fun w => by cases w⟩))
  · by_cases z : t ∈ P
    · rw [h1' t z]; omega
    · have hto := h2 t ht
      rw [h2' t hto z]
      rcases List.mem_append.mp ht with y | y
      · exact absurd y z
      · exact h5 t y

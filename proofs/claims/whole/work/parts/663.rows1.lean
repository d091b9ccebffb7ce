/-! THE CLASS: Rows, the mathematics of counting forward -/
def wl2 (c : KC) (f : Int → Int) (W : ST → Int) : List ST → Int
  | [] => 0
  | x :: r => f (encC c x) * W x + wl2 c f W r
def hsum (F : ST → Bool) (W : ST → Int) : List (Nat × ST) → Int
  | [] => 0
  | x :: r => (if F x.2 then W x.2 else 0) + hsum F W r
theorem hsum_app {F : ST → Bool} {W : ST → Int} : ∀ {A B : List (Nat × ST)}, hsum F W (A ++ B) = hsum F W A + hsum F W B
  | [], B => by show hsum F W B = 0 + hsum F W B; omega
  | x :: r, B => by
    have := hsum_app (F := F) (W := W) (A := r) (B := B)
    show _ + hsum F W (r ++ B) = (_ + hsum F W r) + hsum F W B
    omega
theorem hsum_stW {c : KC} {sky : Nat} {F : ST → Bool} {W : ST → Int} {x : ST} (hK : okK c) : ∀ {M : Nat}, M ≤ 19 → stW c sky 3 (fun y => if F y then W y else 0) x M = hsum F W (nxTo c sky x M)
  | 0, _ => rfl
  | M + 1, hM => by
    have ih := hsum_stW (c := c) (sky := sky) (F := F) (W := W) (x := x) hK (M := M) (by omega)
    have e : stW c sky 3 (fun y => if F y then W y else 0) x (M + 1) = stW c sky 3 (fun y => if F y then W y else 0) x M + (if alwM c sky 3 x M then (if F (toM c sky x M) then W (toM c sky x M) else 0) else 0) := rfl
    rw [e, ih, alwM_3 hK]
    by_cases hc : canM c sky x M = true
    · rw [nxTo_yes hc, hsum_app, if_pos hc]
      show _ = _ + ((if F (toM c sky x M) then W (toM c sky x M) else 0) + 0)
      omega
    · rw [nxTo_no (by simpa using hc), if_neg hc]; omega
theorem hsum_cm {c : KC} {sky r lev : Nat} {l : List Int} {x : ST} (hK : okK c) : cmF c sky l (r + 1) lev x = hsum (fitB c l lev) (cmF c sky l r (lev + 1)) (nx c sky x) := by
  rw [cmF_s, hsum_stW hK (Nat.le_refl _)]; rfl
theorem hsum_1 {F : ST → Bool} : ∀ {A : List (Nat × ST)}, 0 ≤ hsum F (fun _ => 1) A ∧ hsum F (fun _ => 1) A ≤ A.length
  | [] => ⟨Int.le_refl _, Int.le_refl _⟩
  | x :: r => by
    have := hsum_1 (F := F) (A := r)
    show 0 ≤ (if F x.2 then (1 : Int) else 0) + hsum F (fun _ => 1) r ∧ (if F x.2 then (1 : Int) else 0) + hsum F (fun _ => 1) r ≤ ((r.length + 1 : Nat) : Int)
    split <;> omega
/-- counts g of the stands N: by any weight they sum to T, and N is what R tells -/
def rcI (c : KC) (g : Int → Int) (N : List ST) (T : (ST → Int) → Int) (R : ST → Prop) : Prop :=
  (∀ y, y ∈ N → okS c y ∧ 0 < g (encC c y)) ∧ (∀ k : Nat, (∀ y, y ∈ N → encC c y ≠ k) → g k = 0) ∧ (N.map (encC c)).Nodup ∧ (∀ W, wl2 c g W N = T W) ∧ ∀ z, z ∈ N ↔ R z
theorem wl2_app {c : KC} {f : Int → Int} {W : ST → Int} : ∀ {A B : List ST}, wl2 c f W (A ++ B) = wl2 c f W A + wl2 c f W B
  | [], B => by show wl2 c f W B = 0 + wl2 c f W B; omega
  | x :: r, B => by
    have := wl2_app (c := c) (f := f) (W := W) (A := r) (B := B)
    show _ + wl2 c f W (r ++ B) = (_ + wl2 c f W r) + wl2 c f W B
    omega
theorem wl2_congr {c : KC} {f g : Int → Int} {W : ST → Int} : ∀ {A : List ST}, (∀ x, x ∈ A → f (encC c x) = g (encC c x)) → wl2 c f W A = wl2 c g W A
  | [], _ => rfl
  | x :: r, h => by
    have := wl2_congr (c := c) (f := f) (g := g) (W := W) (A := r) (fun y hy => h y (List.mem_cons_of_mem _ hy))
    show f (encC c x) * W x + wl2 c f W r = g (encC c x) * W x + wl2 c g W r
    rw [this, h x (List.mem_cons_self)]
theorem wl2_nn {c : KC} {f : Int → Int} : ∀ {A : List ST}, (∀ x, x ∈ A → 0 ≤ f (encC c x)) → 0 ≤ wl2 c f (fun _ => 1) A ∧ ∀ x, x ∈ A → f (encC c x) ≤ wl2 c f (fun _ => 1) A
  | [], _ => ⟨Int.le_refl _, fun x hx => by cases hx⟩
  | x :: r, h => by
    have ih := wl2_nn (c := c) (f := f) (A := r) (fun y hy => h y (List.mem_cons_of_mem _ hy))
    have h0 := h x (List.mem_cons_self)
    have e : wl2 c f (fun _ => 1) (x :: r) = f (encC c x) * 1 + wl2 c f (fun _ => 1) r := rfl
    rw [e]
    refine ⟨by omega, fun y hy => ?_⟩
    rcases List.mem_cons.mp hy with z | z
    · rw [z]; omega
    · have := ih.2 y z; omega
theorem wl2_up {c : KC} {f : Int → Int} {W : ST → Int} {y : ST} {a : Int} : ∀ {A : List ST}, (A.map (encC c)).Nodup → y ∈ A → wl2 c (fset f (encC c y : Nat) (f (encC c y) + a)) W A = wl2 c f W A + a * W y
  | [], _, h => by cases h
  | x :: r, hn, h => by
    rw [List.map_cons, List.nodup_cons] at hn
    show fset f (encC c y : Nat) (f (encC c y) + a) (encC c x) * W x + wl2 c (fset f (encC c y : Nat) (f (encC c y) + a)) W r = f (encC c x) * W x + wl2 c f W r + a * W y
    rcases List.mem_cons.mp h with z | z
    · subst z
      rw [fs_same, wl2_congr (f := fset f (encC c y : Nat) (f (encC c y) + a)) (g := f) (fun x hx => fs_ne (fun w => hn.1 (by rw [show encC c y = encC c x by omega]; exact List.mem_map_of_mem hx))), Int.add_mul]
      omega
    · have ih := wl2_up (c := c) (f := f) (W := W) (y := y) (a := a) (A := r) hn.2 z
      rw [fs_ne (fun w => hn.1 (by rw [show encC c x = encC c y by omega]; exact List.mem_map_of_mem z)), ih]
      omega
theorem rc_new {c : KC} {g : Int → Int} {N : List ST} {T : (ST → Int) → Int} {R : ST → Prop} {y : ST} {a : Int} (h : rcI c g N T R) (hy : okS c y) (h0 : g (encC c y) = 0) (ha : 0 < a) : rcI c (fset g (encC c y : Nat) (g (encC c y) + a)) (N ++ [y]) (fun W => T W + a * W y) (fun z => R z ∨ z = y) := by
  obtain ⟨h1, h2, h3, h4, h5⟩ := h
  have hne : ∀ x, x ∈ N → encC c x ≠ encC c y := fun x hx e => by
    have := (h1 x hx).2
    rw [e, h0] at this
    omega
  refine ⟨fun x hx => ?_, fun k hk => ?_, ?_, fun W => ?_, fun z => ?_⟩
  · rcases List.mem_append.mp hx with z | z
    · refine ⟨(h1 x z).1, ?_⟩
      rw [fs_ne (fun w => hne x z (by omega))]
      exact (h1 x z).2
    · rw [List.mem_singleton.mp z]
      refine ⟨hy, ?_⟩
      rw [fs_same]; omega
  · rw [fs_ne (fun w => hk y (by simp) (by omega))]
    exact h2 k (fun x hx => hk x (List.mem_append.mpr (Or.inl hx)))
  · rw [List.map_append, List.nodup_append]
    refine ⟨h3, by simp, fun a ha b hb => ?_⟩
    obtain ⟨x, x1, x2⟩ := List.mem_map.mp ha
    simp at hb
    rw [← x2, hb]
    exact hne x x1
  · rw [wl2_app, wl2_congr (f := fset g (encC c y : Nat) (g (encC c y) + a)) (g := g) (fun x hx => fs_ne (fun w => hne x hx (by omega))), h4 W]
    show T W + (fset g (encC c y : Nat) (g (encC c y) + a) (encC c y) * W y + 0) = _
    rw [fs_same, h0, Int.zero_add, Int.add_zero]
  · rw [List.mem_append, h5 z, List.mem_singleton]
theorem rc_old {c : KC} {g : Int → Int} {N : List ST} {T : (ST → Int) → Int} {R : ST → Prop} {y : ST} {a : Int} (hK : okK c) (h : rcI c g N T R) (hy : okS c y) (h0 : g (encC c y) ≠ 0) (ha : 0 < a) : rcI c (fset g (encC c y : Nat) (g (encC c y) + a)) N (fun W => T W + a * W y) (fun z => R z ∨ z = y) := by
  obtain ⟨h1, h2, h3, h4, h5⟩ := h
  have hyN : y ∈ N := by
    refine Classical.byContradiction (fun z => h0 (h2 (encC c y) (fun x hx e => z ?_)))
    rw [← encC_inj hK (h1 x hx).1 hy e]; exact hx
  refine ⟨fun x hx => ?_, fun k hk => ?_, h3, fun W => ?_, fun z => ?_⟩
  · refine ⟨(h1 x hx).1, ?_⟩
    have p1 := (h1 x hx).2
    have p2 := (h1 y hyN).2
    by_cases z : (encC c x : Int) = (encC c y : Nat)
    · rw [z, fs_same]; omega
    · rw [fs_ne z]; exact p1
  · rw [fs_ne (fun w => hk y hyN (by omega))]
    exact h2 k hk
  · rw [wl2_up h3 hyN, h4 W]
  · rw [h5 z]
    exact ⟨fun w => Or.inl w, fun w => by
      rcases w with w | w
      · exact w
      · rw [w]; exact (h5 y).mp hyN⟩
theorem rc_b {c : KC} {g : Int → Int} {N : List ST} {T : (ST → Int) → Int} {R : ST → Prop} (hK : okK c) (h : rcI c g N T R) : N.length ≤ szC c ∧ 0 ≤ T (fun _ => 1) ∧ ∀ y, okS c y → 0 ≤ g (encC c y) ∧ g (encC c y) ≤ T (fun _ => 1) := by
  obtain ⟨h1, h2, h3, h4, h5⟩ := h
  have hw := wl2_nn (c := c) (f := g) (A := N) (fun x hx => Int.le_of_lt (h1 x hx).2)
  rw [h4] at hw
  refine ⟨?_, hw.1, fun y hy => ?_⟩
  · have := nodup_le (n := szC c) h3 (fun x hx => by
      obtain ⟨y, y1, y2⟩ := List.mem_map.mp hx
      rw [← y2]; exact encC_lt hK (h1 y y1).1)
    rwa [List.length_map] at this
  · by_cases z : y ∈ N
    · have := (h1 y z).2
      have := hw.2 y z
      omega
    · have : g (encC c y) = 0 := h2 (encC c y) (fun x hx e => z (by rw [← encC_inj hK (h1 x hx).1 hy e]; exact hx))
      rw [this]; exact ⟨Int.le_refl _, hw.1⟩
theorem rc_ext {c : KC} {g : Int → Int} {N : List ST} {T T' : (ST → Int) → Int} {R R' : ST → Prop} (h : rcI c g N T R) (hT : ∀ W, T W = T' W) (hR : ∀ z, R z ↔ R' z) : rcI c g N T' R' := ⟨h.1, h.2.1, h.2.2.1, fun W => by rw [h.2.2.2.1 W, hT W], fun z => by rw [h.2.2.2.2 z, hR z]⟩
theorem rc_0 {c : KC} {g : Int → Int} (h : ∀ k : Nat, g k = 0) : rcI c g [] (fun _ => 0) (fun _ => False) := ⟨(fun y hy => by cases hy), fun k _ => h k, by simp, fun W => rfl, fun z => by simp⟩

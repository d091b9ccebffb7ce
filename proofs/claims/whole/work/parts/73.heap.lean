/-! SOUNDNESS of the instructions that look at the heap, the pools, or make cells -/
theorem okF_cell {c : PC} {ci q : Nat} (h : okF c ci q) : ∃ fs, c = .inl (ci, fs) ∧ q < fs.length := by
  rcases c with ⟨cj, fs⟩ | c
  · obtain ⟨rfl, h2⟩ := h
    exact ⟨fs, rfl, h2⟩
  · exact h.elim
theorem inA_cell {c : PC} {t : Nat} {j : Int} (h : inA c t j) : ∃ n f, c = .inr (.inl (t, n, f)) ∧ 0 ≤ j ∧ j < n := by
  rcases c with c | ⟨t', n, f⟩ | c
  · exact h.elim
  · obtain ⟨rfl, h2, h3⟩ := h
    exact ⟨n, f, rfl, h2, h3⟩
  · exact h.elim
theorem inJ_cell {c : PC} {j : Int} (h : inJ c j) : ∃ n f, c = .inr (.inr (.inl (n, f))) ∧ 0 ≤ j ∧ j < n := by
  rcases c with c | c | ⟨n, f⟩ | c
  · exact h.elim
  · exact h.elim
  · exact ⟨n, f, rfl, h.1, h.2⟩
  · exact h.elim
theorem inR_cell {c : PC} {j : Int} (h : inR c j) : ∃ t n f, c = .inr (.inr (.inr (t, n, f))) ∧ 0 ≤ j ∧ j < n := by
  rcases c with c | c | c | ⟨t, n, f⟩
  · exact h.elim
  · exact h.elim
  · exact h.elim
  · exact ⟨t, n, f, rfl, h.1, h.2⟩
theorem HR_old {X : AX} {D : va_G} {aC : Nat → ClassId} {L : Nat} {xs : Nat → Int32} {h : PH} {H : Heap} (hH : HR X D aC L xs h H) {a : Nat} (hn : hp h a ≠ oC 99 []) : a < 9 ∨ (10 ≤ a ∧ a < h.1) := by
  rcases Nat.lt_or_ge a 9 with q | q
  · exact Or.inl q
  · right
    rcases Nat.lt_or_ge a h.1 with r | r
    · refine ⟨?_, r⟩
      rcases Nat.lt_or_ge a 10 with z | z
      · have : a = 9 := by omega
        subst this
        exact absurd (hH.2.2.2.1 9 (by omega)) hn
      · exact z
    · exact absurd (hH.2.2.2.2 a r) hn
theorem HR_at {X : AX} {D : va_G} {aC : Nat → ClassId} {L : Nat} {xs : Nat → Int32} {h : PH} {H : Heap} (hH : HR X D aC L xs h H) {a : Nat} {c : PC} (h1 : 10 ≤ a) (h2 : a < h.1) (hc : hp h a = c) : (wsO X aC h)[a - 10]? = some (adr X a, toE X aC c) ∧ okCx c := by
  subst hc
  exact ⟨wsO_at h1 h2, hH.2.2.1 a h1 h2⟩
theorem HR_up {X : AX} {D : va_G} {aC : Nat → ClassId} {L : Nat} {xs : Nat → Int32} {h : PH} {H H' : Heap} (hH : HR X D aC L xs h H) {a : Nat} {c : PC} (h1 : 10 ≤ a) (h2 : a < h.1) (hP : va_P D clsL (wsO X aC (hup h a c)) H') (hc : okCx c) : HR X D aC L xs (hup h a c) H' := by
  refine ⟨hH.1, hP, fun k q1 q2 => ?_, fun k q => ?_, fun k q => ?_⟩
  · by_cases e : k = a
    · subst e; rw [hp_up1]; exact hc
    · rw [hp_upn e]; exact hH.2.2.1 k q1 q2
  · rw [hp_upn (by omega)]; exact hH.2.2.2.1 k q
  · have q' : h.1 ≤ k := q
    rw [hp_upn (by omega)]; exact hH.2.2.2.2 k q
theorem HR_mk {X : AX} {D : va_G} {aC : Nat → ClassId} {L : Nat} {xs : Nat → Int32} {h : PH} {H H' : Heap} (hH : HR X D aC L xs h H) {sl : Nat} {c : PC} (hP : va_P D clsL (wsO X aC (mk1 h sl c)) H') (hc : okCx c) : HR X D aC L xs (mk1 h sl c) H' := by
  have h10 := hH.1
  refine ⟨by show 10 ≤ h.1 + 1; omega, hP, fun k q1 q2 => ?_, fun k q => ?_, fun k q => ?_⟩
  · have q2' : k < h.1 + 1 := q2
    by_cases e : k = h.1
    · subst e; rw [hp_mk1]; exact hc
    · rw [hp_mkn e]; exact hH.2.2.1 k q1 (by omega)
  · rw [hp_mkn (by omega)]; exact hH.2.2.2.1 k q
  · have q' : h.1 + 1 ≤ k := q
    rw [hp_mkn (by omega)]; exact hH.2.2.2.2 k (by omega)
theorem new_addr {X : AX} {D : va_G} {aC : Nat → ClassId} {h : PH} {q : Nat} {e : va_E} {H1 : Heap} (h10 : 10 ≤ h.1) (hP : va_P D clsL (wsO X aC h ++ [(q, e)]) H1) (hD : va_D (fun q => X.1 ≤ q) (wsO X aC h ++ [(q, e)])) (hz : H1.size ≤ X.1 + (h.1 - 10) + 1) : q = adr X h.1 := by
  have hl : (wsO X aC h ++ [(q, e)])[h.1 - 10]? = some (q, e) := by
    rw [List.getElem?_append_right (by rw [wsO_len]; exact Nat.le_refl _), wsO_len, Nat.sub_self]; rfl
  have h1 := (hP _ _ hl).lt
  have h2 : X.1 ≤ q := hD.2 _ _ hl
  rw [adr_hi h10]
  simp only at h1
  rcases Nat.lt_or_ge (q - X.1) (h.1 - 10) with z | z
  · exfalso
    have hk : (wsO X aC h ++ [(q, e)])[q - X.1]? = some (X.1 + (q - X.1), toE X aC (hp h (q - X.1 + 10))) := by
      rw [List.getElem?_append_left (by rw [wsO_len]; exact z)]
      have := wsO_at (X := X) (aC := aC) (h := h) (k := q - X.1 + 10) (by omega) (by omega)
      rw [show q - X.1 + 10 - 10 = q - X.1 by omega, adr_hi (by omega)] at this
      rw [this, show q - X.1 + 10 - 10 = q - X.1 by omega]
    have := hD.1 _ _ _ _ hk hl (by simp only; omega)
    omega
  · omega
theorem st_fun {f : Int → Int} {x y : Int} (h0 : 0 ≤ w x) : (fun j : Nat => Int32.ofInt (fset f (w x) y j)) = upd (fun j : Nat => Int32.ofInt (f j)) (w x).toNat (Int32.ofInt y) := by
  funext j
  unfold fset upd
  by_cases e : (j : Int) = w x
  · rw [if_pos e, if_pos (by omega)]
  · rw [if_neg e, if_neg (by omega)]
theorem tyF_ok : (List.range 13).all (fun ci => match clsL[ci]? with | some r => (List.range r.2.2).all (fun q => match parseFieldDescriptor (r.2.1 q).2.2.1 with | some .int => fty ci q == 0 | some .long => fty ci q == 1 | some (.object _) => fty ci q == 2 | some (.array _) => fty ci q == 2 | _ => false) && (List.range r.2.2).all (fun a => (List.range r.2.2).all (fun b => (a == b) || ((r.2.1 a).2.1 != (r.2.1 b).2.1))) && (List.range r.2.2).all (fun q => ((r.2.1 q).1 == nm ci) && ((r.2.1 q).2.2.2 == ffin ci q)) | none => false) = true := by decide +kernel
theorem tyF {ci q : Nat} {r : vw_C} (h : clsL[ci]? = some r) (hq : q < r.2.2) : (∃ ty, parseFieldDescriptor (r.2.1 q).2.2.1 = some ty ∧ ∀ X v, fitK (fty ci q) v → narrow ty (tr X v) = tr X v ∧ fits ty (tr X v) = true) ∧ (r.2.1 q).1 = nm ci ∧ (r.2.1 q).2.2.2 = ffin ci q := by
  have hci : ci < 13 := (List.getElem?_eq_some_iff.mp h).1
  have h1 := all_range tyF_ok hci
  simp only [h, Bool.and_eq_true] at h1
  have h2 := List.all_eq_true.mp h1.1.1 q (List.mem_range.mpr hq)
  have h3 := List.all_eq_true.mp h1.2 q (List.mem_range.mpr hq)
  rw [Bool.and_eq_true, beq_iff_eq, beq_iff_eq] at h3
  refine ⟨?_, h3.1, h3.2⟩
  cases hp : parseFieldDescriptor (r.2.1 q).2.2.1 with
  | none => rw [hp] at h2; cases h2
  | some ty =>
    rw [hp] at h2
    refine ⟨ty, rfl, fun X v hv => ?_⟩
    cases ty with
    | int =>
      rw [beq_iff_eq.mp h2] at hv
      rcases v with x | x | r
      · exact ⟨rfl, rfl⟩
      · cases hv
      · cases hv
    | long =>
      rw [beq_iff_eq.mp h2] at hv
      rcases v with x | x | r
      · cases hv
      · exact ⟨rfl, rfl⟩
      · cases hv
    | object C =>
      rw [beq_iff_eq.mp h2] at hv
      rcases v with x | x | r
      · cases hv
      · cases hv
      · show narrow _ (va_rf _) = va_rf _ ∧ fits _ (va_rf _) = true
        cases r.bind (adO X) <;> exact ⟨rfl, rfl⟩
    | array t =>
      rw [beq_iff_eq.mp h2] at hv
      rcases v with x | x | r
      · cases hv
      · cases hv
      · show narrow _ (va_rf _) = va_rf _ ∧ fits _ (va_rf _) = true
        cases r.bind (adO X) <;> exact ⟨rfl, rfl⟩
    | _ => cases h2
theorem nmFh {ci : Nat} {r : vw_C} (h : clsL[ci]? = some r) : ∀ a, a < r.2.2 → ∀ b, b < r.2.2 → a ≠ b → (r.2.1 a).2.1 ≠ (r.2.1 b).2.1 := by
  have hci : ci < 13 := (List.getElem?_eq_some_iff.mp h).1
  have h1 := all_range tyF_ok hci
  simp only [h, Bool.and_eq_true] at h1
  intro a ha b hb hab
  have h2 := List.all_eq_true.mp (List.all_eq_true.mp h1.1.2 a (List.mem_range.mpr ha)) b (List.mem_range.mpr hb)
  rw [Bool.or_eq_true, beq_iff_eq, bne_iff_ne] at h2
  exact h2.resolve_left hab
theorem ty0F {ci : Nat} {r : vw_C} (h : clsL[ci]? = some r) : ∃ ty0 : Nat → FieldType, ∀ k, k < r.2.2 → parseFieldDescriptor (r.2.1 k).2.2.1 = some (ty0 k) := by
  refine ⟨fun k => (parseFieldDescriptor (r.2.1 k).2.2.1).getD .int, fun k hk => ?_⟩
  obtain ⟨⟨ty, h1, -⟩, -⟩ := tyF h hk
  dsimp only
  rw [h1]
  rfl
theorem fT_cl {ci q : Nat} {r : vw_C} (h : clsL[ci]? = some r) : fT ci q = r.2.1 q := by
  have hci : ci < 13 := (List.getElem?_eq_some_iff.mp h).1
  unfold fT
  rw [if_neg (by omega), h]
section SNH
variable {p : Program} {l : Launch} {e : Env} {R : Room} {s : State} {m : MethodId} {args : Array Value} {below : List Frame} {meth : Method} {c : Code} {Q : State → Prop}
variable {X : AX} {D : va_G} {aC : Nat → ClassId} {L : Nat} {xs : Nat → Int32} {M : MI}
variable {H : Heap} {locs : List Loc} {cells slots pc : Nat} {lsA : Array Slot} {ls : PL} {st : List PV} {h : PH}
theorem snd_getf {k ci q a : Nat} {r : List PV} (C : CXM X D aC L xs M p s m args meth c) (hd : decode M.2.1 pc = .ok (.getfield k, 3)) (hf : fld M.2.2.2.2 k = some (ci, q)) (ho : okF (hp h a) ci q)
    (hH : HR X D aC L xs h H) (hS : va_S (fun q => X.1 ≤ q) s.heap H locs) (K : W p l e R s m args below meth c H locs cells slots Q (F0 m (pc + 3) lsA (tr X (gF (hp h a) q) :: r.map (tr X)))) :
    W p l e R s m args below meth c H locs cells slots Q (F0 m pc lsA (tr X (vr a) :: r.map (tr X))) := by
  obtain ⟨hx, hb, hml, hown, hts, hrt, hlk, hnm, hKS, hRO, hB⟩ := C
  obtain ⟨hw, -⟩ := fld_ok hf
  obtain ⟨fs, hc, hq⟩ := okF_cell ho
  have hold := HR_old hH (a := a) (by rw [hc]; intro z; cases z; cases hq)
  rcases hold with ha | ⟨h1, h2⟩
  · have h3 := hH.2.2.2.1 a (by omega)
    rw [hc] at h3
    have hk : (1 ≤ a ∧ a ≤ 4) ∧ ci = 13 ∧ fs = [vr (a + 4), vi 0] := by
      match a, ha, h3 with
      | 0, _, h3 => cases h3
      | 1, _, h3 => cases h3; exact ⟨by omega, rfl, rfl⟩
      | 2, _, h3 => cases h3; exact ⟨by omega, rfl, rfl⟩
      | 3, _, h3 => cases h3; exact ⟨by omega, rfl, rfl⟩
      | 4, _, h3 => cases h3; exact ⟨by omega, rfl, rfl⟩
      | 5, _, h3 => cases h3
      | 6, _, h3 => cases h3
      | 7, _, h3 => cases h3
      | 8, _, h3 => cases h3
    obtain ⟨⟨ha1, ha4⟩, rfl, rfl⟩ := hk
    obtain ⟨-, hco, hva, -⟩ := hRO.2.1 a ha1 ha4
    have had : adr X a = X.2.1 a := by unfold adr; rw [if_pos (by omega)]
    rw [tr_r (by omega), had]
    rw [hc] at K
    have hw := hts _ hw
    match q, hq with
    | 0, _ =>
      refine vk_getf hx hb hva hS hown hw (fun _ z => z) hd ?_
      have hv : tr X (gF (Sum.inl (13, [vr (a + 4), vi 0])) 0) = .ref (X.2.1 (a + 4)) := by
        show tr X (vr (a + 4)) = _
        rw [tr_r (by omega)]
        unfold adr
        rw [if_pos (by omega)]
      rw [hv] at K
      exact K
    | 1, _ => exact vk_getf hx hb hco hS hown hw (fun _ z => z) hd K
    | q + 2, hq => exact absurd hq (by simp)
  · obtain ⟨h3, h4⟩ := HR_at hH h1 h2 hc
    obtain ⟨rr, hcl, hlen⟩ := h4
    rw [tr_r (by omega)]
    rw [fT_cl hcl] at hw
    refine va_get (ci := ci) hx hb hts (lays_ok hcl) hown hKS.1 hH.2.1 (a - 10) h3 hcl q (by omega) (hts _ hw) (fun _ z => z) (v := tr X (gF (hp h a) q)) ?_ hd K
    rw [List.getElem?_map, hc, List.getElem?_eq_getElem hq]
    simp only [Option.map_some, gF, List.getD_eq_getElem?_getD, List.getElem?_eq_getElem hq, Option.getD_some]
theorem snd_putf {k ci q a : Nat} {v : PV} {r : List PV} (C : CXM X D aC L xs M p s m args meth c) (hd : decode M.2.1 pc = .ok (.putfield k, 3)) (hf : fld M.2.2.2.2 k = some (ci, q)) (h1 : 10 ≤ a) (ho : okF (hp h a) ci q) (hfit : fitK (fty ci q) v) (hfin : ffin ci q = true → M.1.name = "<init>" ∧ M.2.2.2.2 = ci)
    (hH : HR X D aC L xs h H) (hS : va_S (fun q => X.1 ≤ q) s.heap H locs) (K : ∀ H' locs', HR X D aC L xs (hup h a (sF (hp h a) q v)) H' → va_S (fun q => X.1 ≤ q) s.heap H' locs' → W p l e R s m args below meth c H' locs' cells slots Q (F0 m (pc + 3) lsA (r.map (tr X)))) :
    W p l e R s m args below meth c H locs cells slots Q (F0 m pc lsA (tr X v :: tr X (vr a) :: r.map (tr X))) := by
  obtain ⟨hx, hb, hml, hown, hts, hrt, hlk, hnm, hKS, hRO, hB⟩ := C
  obtain ⟨hw, -⟩ := fld_ok hf
  obtain ⟨fs, hc, hq⟩ := okF_cell ho
  have h2 : a < h.1 := by
    rcases HR_old hH (a := a) (by rw [hc]; intro z; cases z; cases hq) with z | z
    · omega
    · exact z.2
  obtain ⟨h3, h4⟩ := HR_at hH h1 h2 hc
  obtain ⟨rr, hcl, hlen⟩ := h4
  rw [tr_r (by omega)]
  rw [fT_cl hcl] at hw
  obtain ⟨⟨ty, hty, hfv⟩, hdecl, hff⟩ := tyF hcl (q := q) (by omega)
  obtain ⟨ty0, hty0⟩ := ty0F hcl
  have hnew : ∀ H' locs', va_P D clsL ((wsO X aC h).set (a - 10) (adr X a, .inr (ci, (fs.map (tr X)).set q (tr X v)))) H' → va_S (fun q => X.1 ≤ q) s.heap H' locs' → W p l e R s m args below meth c H' locs' cells slots Q (F0 m (pc + 3) lsA (r.map (tr X))) := by
    intro H' locs' g1 g2
    have e1 : (.inr (ci, (fs.map (tr X)).set q (tr X v)) : va_E) = toE X aC (sF (hp h a) q v) := by
      rw [hc]
      show _ = (.inr (ci, (fs.set q v).map (tr X)) : va_E)
      rw [List.map_set]
    rw [e1, wsO_set h1] at g1
    refine K H' locs' (HR_up hH h1 h2 g1 ?_) g2
    rw [hc]
    exact ⟨rr, hcl, by rw [List.length_set]; exact hlen⟩
  cases hfn : ffin ci q with
  | false =>
    refine va_put (ci := ci) hx hb hts (lays_ok hcl) ty0 hty0 (nmFh hcl) hown hKS.1 hH.2.1 wsO_D hS (a - 10) h3 hcl q (by omega) (hts _ hw) (fun _ z => z) (by rw [hff]; exact hfn) hty (hfv X v hfit).1 (hfv X v hfit).2 (by rw [List.length_map]; exact hq) hd (fun H' locs' g1 _ g3 => hnew H' locs' g1 g3)
  | true =>
    obtain ⟨i1, i2⟩ := hfin hfn
    refine va_putF (ci := ci) hx hb hts (lays_ok hcl) ty0 hty0 (nmFh hcl) hown hKS.1 hH.2.1 wsO_D hS (a - 10) h3 hcl q (by omega) (hts _ hw) (fun _ z => z) (by rw [hff]; exact hfn) (hnm i1) (by rw [hdecl, i2]) hty (hfv X v hfit).1 (hfv X v hfit).2 (by rw [List.length_map]; exact hq) hd (fun H' locs' g1 _ g3 => hnew H' locs' g1 g3)
end SNH

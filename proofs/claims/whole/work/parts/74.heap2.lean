theorem stL_fun {f : Int → Int} {x y : Int} (h0 : 0 ≤ w x) : (fun j : Nat => Int64.ofInt (fset f (w x) y j)) = vp_updL (fun j : Nat => Int64.ofInt (f j)) (w x).toNat (Int64.ofInt y) := by
  funext j
  unfold fset vp_updL
  by_cases e : (j : Int) = w x
  · rw [if_pos e, if_pos (by omega)]
  · rw [if_neg e, if_neg (by omega)]
theorem stR_fun {X : AX} {f : Int → Option Nat} {x : Int} {b : Nat} (h0 : 0 ≤ w x) (hb : b ≠ 9) : (fun j : Nat => (fset f (w x) (some b) j).bind (adO X)) = va_up (fun j : Nat => (f j).bind (adO X)) (w x).toNat (some (adr X b)) := by
  funext j
  unfold fset va_up
  by_cases e : (j : Int) = w x
  · rw [if_pos e, if_pos (by omega), Option.bind_some, adO_ne hb]
  · rw [if_neg e, if_neg (by omega)]
theorem toN {x : Int} (h0 : 0 ≤ w x) : (((w x).toNat : Nat) : Int) = w x := by omega
section SNA
variable {p : Program} {l : Launch} {e : Env} {R : Room} {s : State} {m : MethodId} {args : Array Value} {below : List Frame} {meth : Method} {c : Code} {Q : State → Prop}
variable {X : AX} {D : va_G} {aC : Nat → ClassId} {L : Nat} {xs : Nat → Int32} {M : MI}
variable {H : Heap} {locs : List Loc} {cells slots pc : Nat} {lsA : Array Slot} {ls : PL} {st r : List PV} {h : PH} {x y : Int} {a : Nat}
theorem ro_arr (hH : HR X D aC L xs h H) (ha : a < 9) {t n : Nat} {f : Int → Int} (hc : hp h a = .inr (.inl (t, n, f))) : (a = 0 ∧ t = 0 ∧ n = L ∧ f = fun j => (xs j.toNat).toInt) ∨ (5 ≤ a ∧ t = 1 ∧ n = sLen (a - 4) ∧ f = fun j => (sByt (a - 4) j.toNat).toInt) := by
  have h3 := hH.2.2.2.1 a (by omega)
  rw [hc] at h3
  match a, ha, h3 with
  | 0, _, h3 => cases h3; exact Or.inl ⟨rfl, rfl, rfl, rfl⟩
  | 1, _, h3 => cases h3
  | 2, _, h3 => cases h3
  | 3, _, h3 => cases h3
  | 4, _, h3 => cases h3
  | 5, _, h3 => cases h3; exact Or.inr ⟨by omega, rfl, rfl, rfl⟩
  | 6, _, h3 => cases h3; exact Or.inr ⟨by omega, rfl, rfl, rfl⟩
  | 7, _, h3 => cases h3; exact Or.inr ⟨by omega, rfl, rfl, rfl⟩
  | 8, _, h3 => cases h3; exact Or.inr ⟨by omega, rfl, rfl, rfl⟩
theorem snd_iald (C : CXM X D aC L xs M p s m args meth c) (hd : decode M.2.1 pc = .ok (.iaload, 1)) (ho : inA (hp h a) 0 (w x))
    (hH : HR X D aC L xs h H) (hS : va_S (fun q => X.1 ≤ q) s.heap H locs) (K : W p l e R s m args below meth c H locs cells slots Q (F0 m (pc + 1) lsA (tr X (vi (ldA (hp h a) (w x))) :: r.map (tr X)))) :
    W p l e R s m args below meth c H locs cells slots Q (F0 m pc lsA (tr X (vi x) :: tr X (vr a) :: r.map (tr X))) := by
  obtain ⟨hx, hb, hml, hown, hts, hrt, hlk, hnm, hKS, hRO, hB⟩ := C
  obtain ⟨n, f, hc, h0, h1⟩ := inA_cell ho
  rw [hc] at K
  rcases HR_old hH (a := a) (by rw [hc]; intro z; cases z) with ha | ⟨ha, hb2⟩
  · rcases ro_arr hH ha hc with ⟨rfl, -, rfl, rfl⟩ | ⟨-, q, -⟩
    · rw [tr_r (by omega)]
      refine va_ti hx hb hRO.1 hS (n_in h0 h1) rfl hd ?_
      rw [n_clamp]
      have e : tr X (vi (ldA (Sum.inr (Sum.inl (0, n, fun j => (xs j.toNat).toInt))) (w x))) = .int (xs (w x).toNat) := by
        show Value.int (Int32.ofInt (xs (w x).toNat).toInt) = _
        rw [Int32.ofInt_toInt]
      rw [e] at K
      exact K
    · cases q
  · obtain ⟨h3, h4⟩ := HR_at hH ha hb2 hc
    rw [tr_r (by omega)]
    refine va_iald hx hb hKS.1 hH.2.1 (a - 10) 0 h3 rfl (n_in h0 h1) hd ?_
    rw [n_clamp, toN h0]
    exact K
theorem snd_bald (C : CXM X D aC L xs M p s m args meth c) (hd : decode M.2.1 pc = .ok (.baload, 1)) (ho : inA (hp h a) 1 (w x) ∨ inA (hp h a) 2 (w x))
    (hH : HR X D aC L xs h H) (hS : va_S (fun q => X.1 ≤ q) s.heap H locs) (K : W p l e R s m args below meth c H locs cells slots Q (F0 m (pc + 1) lsA (tr X (vi (ldA (hp h a) (w x))) :: r.map (tr X)))) :
    W p l e R s m args below meth c H locs cells slots Q (F0 m pc lsA (tr X (vi x) :: tr X (vr a) :: r.map (tr X))) := by
  obtain ⟨hx, hb, hml, hown, hts, hrt, hlk, hnm, hKS, hRO, hB⟩ := C
  rcases ho with ho | ho
  · obtain ⟨n, f, hc, h0, h1⟩ := inA_cell ho
    rw [hc] at K
    rcases HR_old hH (a := a) (by rw [hc]; intro z; cases z) with ha | ⟨ha, hb2⟩
    · rcases ro_arr hH ha hc with ⟨-, q, -⟩ | ⟨h5, -, rfl, rfl⟩
      · cases q
      · rw [tr_r (by omega)]
        obtain ⟨-, -, -, hT⟩ := hRO.2.1 (a - 4) (by omega) (by omega)
        have had : adr X a = X.2.1 (a - 4 + 4) := by unfold adr; rw [if_pos (by omega), show a - 4 + 4 = a by omega]
        rw [had]
        refine va_tb hx hb hT hS (n_in h0 h1) rfl hd ?_
        rw [n_clamp]
        have e : tr X (vi (ldA (Sum.inr (Sum.inl (1, sLen (a - 4), fun j => (sByt (a - 4) j.toNat).toInt))) (w x))) = .int (sByt (a - 4) (w x).toNat) := by
          show Value.int (Int32.ofInt (sByt (a - 4) (w x).toNat).toInt) = _
          rw [Int32.ofInt_toInt]
        rw [e] at K
        exact K
    · obtain ⟨h3, h4⟩ := HR_at hH ha hb2 hc
      rw [tr_r (by omega)]
      refine va_bald hx hb hKS.1 hH.2.1 (a - 10) 1 h3 rfl (n_in h0 h1) hd ?_
      rw [n_clamp, toN h0]
      exact K
  · obtain ⟨n, f, hc, h0, h1⟩ := inA_cell ho
    rw [hc] at K
    rcases HR_old hH (a := a) (by rw [hc]; intro z; cases z) with ha | ⟨ha, hb2⟩
    · rcases ro_arr hH ha hc with ⟨-, q, -⟩ | ⟨-, q, -⟩ <;> cases q
    · obtain ⟨h3, h4⟩ := HR_at hH ha hb2 hc
      rw [tr_r (by omega)]
      refine va_zald hx hb hKS.1 hH.2.1 (a - 10) 2 h3 rfl (n_in h0 h1) hd ?_
      rw [n_clamp, toN h0]
      exact K
theorem ro_no (hH : HR X D aC L xs h H) (ha : a < 9) {cc : PC} (hc : hp h a = cc) (h1 : ∀ z, cc ≠ .inl z) (h2 : ∀ z, cc ≠ .inr (.inl z)) : False := by
  have h3 := hH.2.2.2.1 a (by omega)
  rw [hc] at h3
  match a, ha, h3 with
  | 0, _, h3 => exact h2 _ h3
  | 1, _, h3 => exact h1 _ h3
  | 2, _, h3 => exact h1 _ h3
  | 3, _, h3 => exact h1 _ h3
  | 4, _, h3 => exact h1 _ h3
  | 5, _, h3 => exact h2 _ h3
  | 6, _, h3 => exact h2 _ h3
  | 7, _, h3 => exact h2 _ h3
  | 8, _, h3 => exact h2 _ h3
theorem snd_lald (C : CXM X D aC L xs M p s m args meth c) (hd : decode M.2.1 pc = .ok (.laload, 1)) (ho : inJ (hp h a) (w x))
    (hH : HR X D aC L xs h H) (K : W p l e R s m args below meth c H locs cells slots Q (F0 m (pc + 1) lsA (tr X (vl (ldJ (hp h a) (w x))) :: r.map (tr X)))) :
    W p l e R s m args below meth c H locs cells slots Q (F0 m pc lsA (tr X (vi x) :: tr X (vr a) :: r.map (tr X))) := by
  obtain ⟨hx, hb, hml, hown, hts, hrt, hlk, hnm, hKS, hRO, hB⟩ := C
  obtain ⟨n, f, hc, h0, h1⟩ := inJ_cell ho
  rw [hc] at K
  rcases HR_old hH (a := a) (by rw [hc]; intro z; cases z) with ha | ⟨ha, hb2⟩
  · exact (ro_no hH ha hc (fun z q => by cases q) (fun z q => by cases q)).elim
  · obtain ⟨h3, h4⟩ := HR_at hH ha hb2 hc
    rw [tr_r (by omega)]
    refine va_lald hx hb hKS.1 hH.2.1 (a - 10) 3 h3 rfl (n_in h0 h1) hd ?_
    rw [n_clamp, toN h0]
    exact K
theorem snd_aald (C : CXM X D aC L xs M p s m args meth c) (hd : decode M.2.1 pc = .ok (.aaload, 1)) (ho : inR (hp h a) (w x))
    (hH : HR X D aC L xs h H) (K : W p l e R s m args below meth c H locs cells slots Q (F0 m (pc + 1) lsA (tr X (vo (ldR (hp h a) (w x))) :: r.map (tr X)))) :
    W p l e R s m args below meth c H locs cells slots Q (F0 m pc lsA (tr X (vi x) :: tr X (vr a) :: r.map (tr X))) := by
  obtain ⟨hx, hb, hml, hown, hts, hrt, hlk, hnm, hKS, hRO, hB⟩ := C
  obtain ⟨t, n, f, hc, h0, h1⟩ := inR_cell ho
  rw [hc] at K
  rcases HR_old hH (a := a) (by rw [hc]; intro z; cases z) with ha | ⟨ha, hb2⟩
  · exact (ro_no hH ha hc (fun z q => by cases q) (fun z q => by cases q)).elim
  · obtain ⟨h3, h4⟩ := HR_at hH ha hb2 hc
    rw [tr_r (by omega)]
    have hlt : (Int32.ofInt x).toNatClampNeg < n := by rw [n_clamp]; omega
    have hP := hH.2.1 _ _ h3
    have harr : ∃ ty : FieldType, (tysL aC)[4 + t]? = some (aC (4 + t), ty) ∧ ty.isReference = true := by
      have ht : t < 2 := h4
      match t, ht with
      | 0, _ => exact ⟨_, rfl, rfl⟩
      | 1, _ => exact ⟨_, rfl, rfl⟩
    obtain ⟨ty, g1, g2⟩ := harr
    have hin := n_in h0 h1
    refine W.aald (v := va_rf ((f (Int32.ofInt x).toNatClampNeg).bind (adO X))) hx hb hP ((hKS.1.2 _ _ g1).1 n (fun j => va_rf ((f j).bind (adO X)))) g2 (fun q => by cases q) (by show ¬ (_ < 0 ∨ (arrV _ _ _).slots.size ≤ _); rw [arrV_size]; exact hin) (by show (arrV _ _ _).slots[_]? = _; rw [arrV_read _ _ hlt]) rfl rfl hd ?_
    rw [n_clamp, toN h0]
    exact K
theorem snd_iast (C : CXM X D aC L xs M p s m args meth c) (hd : decode M.2.1 pc = .ok (.iastore, 1)) (ha : 10 ≤ a) (ho : inA (hp h a) 0 (w x))
    (hH : HR X D aC L xs h H) (hS : va_S (fun q => X.1 ≤ q) s.heap H locs) (K : ∀ H' locs', HR X D aC L xs (hup h a (stA (hp h a) (w x) y)) H' → va_S (fun q => X.1 ≤ q) s.heap H' locs' → W p l e R s m args below meth c H' locs' cells slots Q (F0 m (pc + 1) lsA (r.map (tr X)))) :
    W p l e R s m args below meth c H locs cells slots Q (F0 m pc lsA (tr X (vi y) :: tr X (vi x) :: tr X (vr a) :: r.map (tr X))) := by
  obtain ⟨hx, hb, hml, hown, hts, hrt, hlk, hnm, hKS, hRO, hB⟩ := C
  obtain ⟨n, f, hc, h0, h1⟩ := inA_cell ho
  have hb2 : a < h.1 := by
    rcases HR_old hH (a := a) (by rw [hc]; intro z; cases z) with z | z
    · omega
    · exact z.2
  obtain ⟨h3, h4⟩ := HR_at hH ha hb2 hc
  rw [tr_r (by omega)]
  refine va_iast hx hb hKS.1 hH.2.1 wsO_D hS (a - 10) 0 h3 rfl (n_in h0 h1) hd (fun H' locs' g1 _ g3 => ?_)
  rw [n_clamp, ← st_fun h0] at g1
  rw [hc] at K
  refine K H' locs' (HR_up hH ha hb2 ?_ h4) g3
  rw [← wsO_set ha]
  exact g1
theorem snd_last (C : CXM X D aC L xs M p s m args meth c) (hd : decode M.2.1 pc = .ok (.lastore, 1)) (ha : 10 ≤ a) (ho : inJ (hp h a) (w x))
    (hH : HR X D aC L xs h H) (hS : va_S (fun q => X.1 ≤ q) s.heap H locs) (K : ∀ H' locs', HR X D aC L xs (hup h a (stJ (hp h a) (w x) y)) H' → va_S (fun q => X.1 ≤ q) s.heap H' locs' → W p l e R s m args below meth c H' locs' cells slots Q (F0 m (pc + 1) lsA (r.map (tr X)))) :
    W p l e R s m args below meth c H locs cells slots Q (F0 m pc lsA (tr X (vl y) :: tr X (vi x) :: tr X (vr a) :: r.map (tr X))) := by
  obtain ⟨hx, hb, hml, hown, hts, hrt, hlk, hnm, hKS, hRO, hB⟩ := C
  obtain ⟨n, f, hc, h0, h1⟩ := inJ_cell ho
  have hb2 : a < h.1 := by
    rcases HR_old hH (a := a) (by rw [hc]; intro z; cases z) with z | z
    · omega
    · exact z.2
  obtain ⟨h3, h4⟩ := HR_at hH ha hb2 hc
  rw [tr_r (by omega)]
  refine va_last hx hb hKS.1 hH.2.1 wsO_D hS (a - 10) 3 h3 rfl (n_in h0 h1) hd (fun H' locs' g1 _ g3 => ?_)
  rw [n_clamp, ← stL_fun h0] at g1
  rw [hc] at K
  refine K H' locs' (HR_up hH ha hb2 ?_ h4) g3
  rw [← wsO_set ha]
  exact g1
theorem nar_b {y : Int} (h1 : -128 ≤ y) (h2 : y < 128) : vp_nar .byte (Int32.ofInt y) = Int32.ofInt y := by
  show (Int32.ofInt y).toInt8.toInt32 = _
  rw [n_i2b]
  congr 1
  rw [Int.bmod_def]; split <;> omega
theorem nar_z {y : Int} (h : y = 0 ∨ y = 1) : vp_nar .boolean (Int32.ofInt y) = Int32.ofInt y := by
  rcases h with rfl | rfl <;> rfl
theorem snd_bast (C : CXM X D aC L xs M p s m args meth c) (hd : decode M.2.1 pc = .ok (.bastore, 1)) (ha : 10 ≤ a) (ho : (inA (hp h a) 1 (w x) ∧ -128 ≤ y ∧ y < 128) ∨ (inA (hp h a) 2 (w x) ∧ (y = 0 ∨ y = 1)))
    (hH : HR X D aC L xs h H) (hS : va_S (fun q => X.1 ≤ q) s.heap H locs) (K : ∀ H' locs', HR X D aC L xs (hup h a (stA (hp h a) (w x) y)) H' → va_S (fun q => X.1 ≤ q) s.heap H' locs' → W p l e R s m args below meth c H' locs' cells slots Q (F0 m (pc + 1) lsA (r.map (tr X)))) :
    W p l e R s m args below meth c H locs cells slots Q (F0 m pc lsA (tr X (vi y) :: tr X (vi x) :: tr X (vr a) :: r.map (tr X))) := by
  obtain ⟨hx, hb, hml, hown, hts, hrt, hlk, hnm, hKS, hRO, hB⟩ := C
  rcases ho with ⟨ho, q1, q2⟩ | ⟨ho, q1⟩
  · obtain ⟨n, f, hc, h0, h1⟩ := inA_cell ho
    have hb2 : a < h.1 := by
      rcases HR_old hH (a := a) (by rw [hc]; intro z; cases z) with z | z
      · omega
      · exact z.2
    obtain ⟨h3, h4⟩ := HR_at hH ha hb2 hc
    rw [tr_r (by omega)]
    refine va_bast hx hb hKS.1 hH.2.1 wsO_D hS (a - 10) 1 h3 rfl (n_in h0 h1) hd (fun H' locs' g1 _ g3 => ?_)
    rw [nar_b q1 q2, n_clamp, ← st_fun h0] at g1
    rw [hc] at K
    refine K H' locs' (HR_up hH ha hb2 ?_ h4) g3
    rw [← wsO_set ha]
    exact g1
  · obtain ⟨n, f, hc, h0, h1⟩ := inA_cell ho
    have hb2 : a < h.1 := by
      rcases HR_old hH (a := a) (by rw [hc]; intro z; cases z) with z | z
      · omega
      · exact z.2
    obtain ⟨h3, h4⟩ := HR_at hH ha hb2 hc
    rw [tr_r (by omega)]
    refine va_zast hx hb hKS.1 hH.2.1 wsO_D hS (a - 10) 2 h3 rfl (n_in h0 h1) hd (fun H' locs' g1 _ g3 => ?_)
    rw [nar_z q1, n_clamp, ← st_fun h0] at g1
    rw [hc] at K
    refine K H' locs' (HR_up hH ha hb2 ?_ h4) g3
    rw [← wsO_set ha]
    exact g1
theorem snd_aast {b : Nat} (C : CXM X D aC L xs M p s m args meth c) (hd : decode M.2.1 pc = .ok (.aastore, 1)) (ha : 10 ≤ a) (ho : inR (hp h a) (w x)) (ht : tgR (hp h a) = some 0) (hbc : clsO (hp h b) = some 6)
    (hH : HR X D aC L xs h H) (hS : va_S (fun q => X.1 ≤ q) s.heap H locs) (K : ∀ H' locs', HR X D aC L xs (hup h a (stR (hp h a) (w x) (some b))) H' → va_S (fun q => X.1 ≤ q) s.heap H' locs' → W p l e R s m args below meth c H' locs' cells slots Q (F0 m (pc + 1) lsA (r.map (tr X)))) :
    W p l e R s m args below meth c H locs cells slots Q (F0 m pc lsA (tr X (vr b) :: tr X (vi x) :: tr X (vr a) :: r.map (tr X))) := by
  obtain ⟨hx, hb, hml, hown, hts, hrt, hlk, hnm, hKS, hRO, hB⟩ := C
  obtain ⟨t, n, f, hc, h0, h1⟩ := inR_cell ho
  rw [hc] at ht
  cases ht
  have hb2 : a < h.1 := by
    rcases HR_old hH (a := a) (by rw [hc]; intro z; cases z) with z | z
    · omega
    · exact z.2
  obtain ⟨h3, h4⟩ := HR_at hH ha hb2 hc
  obtain ⟨fs, hcb⟩ : ∃ fs, hp h b = .inl (6, fs) := by
    cases hq : hp h b with
    | inl z => obtain ⟨z1, z2⟩ := z; rw [hq] at hbc; cases hbc; exact ⟨_, rfl⟩
    | inr z => rw [hq] at hbc; cases hbc
  have hbo : 10 ≤ b ∧ b < h.1 := by
    rcases HR_old hH (a := b) (by rw [hcb]; intro z; cases z) with z | z
    · exfalso
      have h5 := hH.2.2.2.1 b (by omega)
      rw [hcb] at h5
      match b, z, h5 with
      | 0, _, h3 => cases h3
      | 1, _, h3 => cases h3
      | 2, _, h3 => cases h3
      | 3, _, h3 => cases h3
      | 4, _, h3 => cases h3
      | 5, _, h3 => cases h3
      | 6, _, h3 => cases h3
      | 7, _, h3 => cases h3
      | 8, _, h3 => cases h3
    · exact z
  obtain ⟨h6, h7⟩ := HR_at hH hbo.1 hbo.2 hcb
  rw [tr_r (by omega), tr_r (by omega)]
  refine va_astq hx hb hKS.1 hH.2.1 wsO_D hS (a - 10) 4 (b - 10) 6 h3 rfl h6 rfl (n_in h0 h1) hd (fun H' locs' g1 _ g3 => ?_)
  rw [n_clamp, ← stR_fun h0 (by omega)] at g1
  rw [hc] at K
  refine K H' locs' (HR_up hH ha hb2 ?_ h4) g3
  rw [← wsO_set ha]
  exact g1
theorem snd_alen {n : Nat} (C : CXM X D aC L xs M p s m args meth c) (hd : decode M.2.1 pc = .ok (.arraylength, 1)) (ho : lenA (hp h a) = some n)
    (hH : HR X D aC L xs h H) (hS : va_S (fun q => X.1 ≤ q) s.heap H locs) (K : W p l e R s m args below meth c H locs cells slots Q (F0 m (pc + 1) lsA (tr X (vi n) :: r.map (tr X)))) :
    W p l e R s m args below meth c H locs cells slots Q (F0 m pc lsA (tr X (vr a) :: r.map (tr X))) := by
  obtain ⟨hx, hb, hml, hown, hts, hrt, hlk, hnm, hKS, hRO, hB⟩ := C
  rcases HR_old hH (a := a) (by intro z; rw [z] at ho; cases ho) with ha | ⟨ha, hb2⟩
  · rw [tr_r (by omega)]
    rcases hq : hp h a with z | ⟨t, n', f⟩ | z
    · rw [hq] at ho; cases ho
    · rw [hq] at ho
      cases ho
      rcases ro_arr hH ha hq with ⟨rfl, -, rfl, -⟩ | ⟨h5, -, rfl, -⟩
      · exact va_tlen hx hb hRO.1 hS (n_nat _) hd K
      · obtain ⟨-, -, -, hT⟩ := hRO.2.1 (a - 4) (by omega) (by omega)
        have had : adr X a = X.2.1 (a - 4 + 4) := by unfold adr; rw [if_pos (by omega), show a - 4 + 4 = a by omega]
        rw [had]
        exact va_tlen hx hb hT hS (n_nat _) hd K
    · exact (ro_no hH ha hq (fun z q => by cases q) (fun z q => by cases q)).elim
  · rw [tr_r (by omega)]
    rcases hq : hp h a with z | ⟨t, n', f⟩ | ⟨n', f⟩ | ⟨t, n', f⟩
    · rw [hq] at ho; cases ho
    · rw [hq] at ho
      cases ho
      obtain ⟨h3, h4⟩ := HR_at hH ha hb2 hq
      have ht : t < 3 := h4
      match t, ht, h3 with
      | 0, _, h3 => exact va_alen hx hb hKS.1 hH.2.1 (a - 10) 0 h3 rfl (n_nat _) hd K
      | 1, _, h3 => exact va_alen hx hb hKS.1 hH.2.1 (a - 10) 1 h3 rfl (n_nat _) hd K
      | 2, _, h3 => exact va_alen hx hb hKS.1 hH.2.1 (a - 10) 2 h3 rfl (n_nat _) hd K
    · rw [hq] at ho
      cases ho
      obtain ⟨h3, h4⟩ := HR_at hH ha hb2 hq
      exact va_alen hx hb hKS.1 hH.2.1 (a - 10) 3 h3 rfl (n_nat _) hd K
    · rw [hq] at ho
      cases ho
      obtain ⟨h3, h4⟩ := HR_at hH ha hb2 hq
      have ht : t < 2 := h4
      match t, ht, h3 with
      | 0, _, h3 => exact va_alen hx hb hKS.1 hH.2.1 (a - 10) 4 h3 rfl (n_nat _) hd K
      | 1, _, h3 => exact va_alen hx hb hKS.1 hH.2.1 (a - 10) 5 h3 rfl (n_nat _) hd K
end SNA

/-! making cells, constants, statics, the JDK's natives -/
theorem str_chk : (List.range 21).all (fun o => (ksts.getD o []).all (fun e => (e.2.1 != 1) || ((o == 9 && e.1 == 71 && e.2.2 == 1) || (o == 9 && e.1 == 60 && e.2.2 == 2) || (o == 12 && e.1 == 90 && e.2.2 == 3) || (o == 12 && e.1 == 128 && e.2.2 == 4)))) = true := by decide +kernel
theorem str_ok {o k : Nat} {v : Int} (h : kstr o k = some (1, v)) : (o = 9 ∧ k = 71 ∧ v = 1) ∨ (o = 9 ∧ k = 60 ∧ v = 2) ∨ (o = 12 ∧ k = 90 ∧ v = 3) ∨ (o = 12 ∧ k = 128 ∧ v = 4) := by
  have hm := lookup_mem h
  have h1 := List.all_eq_true.mp (all_range str_chk (getD_nil ksts_len hm)) _ hm
  simp only [Bool.or_eq_true, Bool.and_eq_true, beq_iff_eq, bne_self_eq_false, Bool.false_eq_true, false_or] at h1
  omega
theorem sta_chk : (List.range 21).all (fun o => (stas.getD o []).all (fun e => (o == 13 && e.1 == 38 && e.2.1 == 0 && e.2.2 == 1) || (o == 13 && e.1 == 1053 && e.2.1 == 1 && e.2.2 == 9))) = true := by decide +kernel
theorem stas_len : stas.length = 21 := rfl
theorem sta_ok {o k t : Nat} {v : Int} (h : star o k = some (t, v)) : (o = 13 ∧ k = 38 ∧ t = 0 ∧ v = 1) ∨ (o = 13 ∧ k = 1053 ∧ t = 1 ∧ v = 9) := by
  have hm := lookup_mem h
  have h1 := List.all_eq_true.mp (all_range sta_chk (getD_nil stas_len hm)) _ hm
  simp only [Bool.or_eq_true, Bool.and_eq_true, beq_iff_eq] at h1
  omega
theorem cls_chk : (List.range 21).all (fun o => (clss.getD o []).all (fun e => decide (e.2 < 13) || (e.2 == 100) || (e.2 == 101))) = true := by decide +kernel
theorem cls_lt {o k ci : Nat} (h : cls o k = some ci) : ci < 13 ∨ ci = 100 ∨ ci = 101 := by
  have hm := lookup_mem h
  have h1 := List.all_eq_true.mp (all_range cls_chk (getD_nil clss_len hm)) _ hm
  simp only [Bool.or_eq_true, beq_iff_eq, decide_eq_true_eq] at h1
  omega
theorem dfl_chk : (List.range 13).all (fun ci => match clsL[ci]? with | some r => ((dfl ci).length == r.2.2) && (nm ci == r.1) | none => false) = true := by decide +kernel
theorem dfl_len {ci : Nat} {r : vw_C} (h : clsL[ci]? = some r) : (dfl ci).length = r.2.2 ∧ nm ci = r.1 := by
  have hci : ci < 13 := (List.getElem?_eq_some_iff.mp h).1
  have h1 := all_range dfl_chk hci
  simp only [h, Bool.and_eq_true, beq_iff_eq] at h1
  exact h1
theorem dfl_val {X : AX} {ci j : Nat} {r : vw_C} {ty : FieldType} (h : clsL[ci]? = some r) (hj : j < r.2.2) (ht : parseFieldDescriptor (r.2.1 j).2.2.1 = some ty) : defaultValue ty = vp_V ((dfl ci).map (tr X)) j := by
  have hci : ci < 13 := (List.getElem?_eq_some_iff.mp h).1
  have h1 := all_range tyF_ok hci
  simp only [h, Bool.and_eq_true] at h1
  have h2 := List.all_eq_true.mp h1.1.1 j (List.mem_range.mpr hj)
  rw [ht] at h2
  have hl := (dfl_len h).1
  unfold dfl at hl ⊢
  rw [List.length_map] at hl
  have hv : vp_V (((ftys.getD ci []).map (fun k => if k = 0 then vi 0 else if k = 1 then vl 0 else vn)).map (tr X)) j = tr X (if fty ci j = 0 then vi 0 else if fty ci j = 1 then vl 0 else vn) := by
    unfold vp_V fty
    rw [List.getD_eq_getElem?_getD, List.getElem?_map, List.getElem?_map]
    generalize ftys.getD ci [] = F at hl ⊢
    rw [List.getD_eq_getElem?_getD, List.getElem?_eq_getElem (by omega)]
    rfl
  rw [hv]
  cases ty with
  | int => rw [beq_iff_eq.mp h2]; rfl
  | long => rw [beq_iff_eq.mp h2]; rfl
  | object C => rw [beq_iff_eq.mp h2]; rfl
  | array t => rw [beq_iff_eq.mp h2]; rfl
  | _ => cases h2
theorem z_chk : (List.range 21).all (fun o => (mths.getD o []).all (fun e => decide (e.2.1 < 3) || ((e.2.2.1 == 0) && (e.2.2.2 == 0)))) = true := by decide +kernel
theorem mth_z {o k kd j n : Nat} (h : mth o k = some (kd, j, n)) (hk : 3 ≤ kd) : j = 0 ∧ n = 0 := by
  have hm := lookup_mem h
  have h1 := List.all_eq_true.mp (all_range z_chk (getD_nil mths_len hm)) _ hm
  simp only [Bool.or_eq_true, Bool.and_eq_true, beq_iff_eq, decide_eq_true_eq] at h1
  omega
theorem mth_z3 {o k j n : Nat} (h : mth o k = some (3, j, n)) : mth o k = some (3, 0, 0) := by obtain ⟨rfl, rfl⟩ := mth_z h (by omega); exact h
theorem mth_z4 {o k j n : Nat} (h : mth o k = some (4, j, n)) : mth o k = some (4, 0, 0) := by obtain ⟨rfl, rfl⟩ := mth_z h (by omega); exact h
theorem mth_z5 {o k j n : Nat} (h : mth o k = some (5, j, n)) : mth o k = some (5, 0, 0) := by obtain ⟨rfl, rfl⟩ := mth_z h (by omega); exact h
section SNM
variable {p : Program} {l : Launch} {e : Env} {R : Room} {s : State} {m : MethodId} {args : Array Value} {below : List Frame} {meth : Method} {c : Code} {Q : State → Prop}
variable {X : AX} {D : va_G} {aC : Nat → ClassId} {L : Nat} {xs : Nat → Int32} {M : MI}
variable {H : Heap} {locs : List Loc} {cells slots pc : Nat} {lsA : Array Slot} {ls : PL} {st r : List PV} {h : PH} {x y : Int} {a k : Nat}
theorem hA_of (hB : X.1 ≤ s.heap.size) : ∀ q : Nat, s.heap.size ≤ q → (fun q : Nat => X.1 ≤ q) q := fun _ z => Nat.le_trans hB z
theorem snd_new {ci : Nat} (C : CXM X D aC L xs M p s m args meth c) (hd : decode M.2.1 pc = .ok (.new k, 3)) (hc : cls M.2.2.2.2 k = some ci) (hci : ci < 13)
    (hH : HR X D aC L xs h H) (hS : va_S (fun q => X.1 ≤ q) s.heap H locs) (hz : X.1 + h.1 = s.heap.size + cells + 10) (hc1 : cells + 1 ≤ R.cells) (hs1 : slots + (dfl ci).length ≤ R.slots)
    (K : ∀ H', HR X D aC L xs (mk1 h (dfl ci).length (oC ci (dfl ci))) H' → va_S (fun q => X.1 ≤ q) s.heap H' locs → W p l e R s m args below meth c H' locs (cells + 1) (slots + (dfl ci).length) Q (F0 m (pc + 3) lsA (tr X (vr h.1) :: r.map (tr X)))) :
    W p l e R s m args below meth c H locs cells slots Q (F0 m pc lsA (r.map (tr X))) := by
  obtain ⟨hx, hb, hml, hown, hts, hrt, hlk, hnm, hKS, hRO, hB⟩ := C
  have h10 := hH.1
  obtain ⟨rr, hcl⟩ : ∃ rr, clsL[ci]? = some rr := ⟨_, List.getElem?_eq_getElem (show ci < clsL.length from hci)⟩
  have hw := cls_ok hc
  have hcn : cnm ci = rr.1 := by unfold cnm; rw [if_neg (by omega), if_neg (by omega)]; exact (dfl_len hcl).2
  rw [hcn] at hw
  obtain ⟨hw1, hw2⟩ := inst_ok hcl
  obtain ⟨ty0, hty0⟩ := ty0F hcl
  have hl := (dfl_len hcl).1
  rw [hl] at hs1 K
  refine va_new (ci := ci) (fs := (dfl ci).map (tr X)) hx hb hts (lays_ok hcl) ty0 hty0 hown (hts _ hw) (hts _ hw1) (hts _ hw2) hKS.1 hH.2.1 wsO_D hS (hA_of hB) hcl (fun j hj => dfl_val hcl hj (hty0 j hj)) hc1 hs1 hd (fun q H1 g1 g2 g3 => ?_)
  refine W_size (fun hsz => ?_)
  have hq := new_addr h10 g1 g2 (by omega)
  subst hq
  have g1' : va_P D clsL (wsO X aC (mk1 h rr.2.2 (oC ci (dfl ci)))) H1 := by
    rw [← wsO_push h10]
    exact g1
  have := K H1 (HR_mk hH g1' ⟨rr, hcl, hl⟩) g3
  rw [tr_r (by omega)] at this
  exact this
theorem arr_cls (hK : va_K D clsL (tysL aC) s) {t : Nat} {ty : FieldType} {cA : ClassId} (h1 : (tysL aC)[t]? = some (aC t, ty)) (h2 : va_K D clsL (tysL aC ++ [(cA, ty)]) s) (hp : ∀ C, ty ≠ .object C) : cA = aC t := by
  have a1 := (hK.2 _ _ h1).2
  have a2 := (h2.2 6 (cA, ty) rfl).2
  cases ty with
  | object C => exact absurd rfl (hp C)
  | _ => exact Option.some.inj (a2.symm.trans a1)
theorem snd_newI (C : CXM X D aC L xs M p s m args meth c) (hd : decode M.2.1 pc = .ok (.newarray .int, 2)) (h0 : 0 ≤ w x) (h1 : w x ≤ 500000)
    (hH : HR X D aC L xs h H) (hS : va_S (fun q => X.1 ≤ q) s.heap H locs) (hz : X.1 + h.1 = s.heap.size + cells + 10) (hc1 : cells + 1 ≤ R.cells) (hs1 : slots + (w x).toNat ≤ R.slots)
    (K : ∀ H', HR X D aC L xs (mk1 h (w x).toNat (aI 0 (w x).toNat (fun _ => 0))) H' → va_S (fun q => X.1 ≤ q) s.heap H' locs → W p l e R s m args below meth c H' locs (cells + 1) (slots + (w x).toNat) Q (F0 m (pc + 2) lsA (tr X (vr h.1) :: r.map (tr X)))) :
    W p l e R s m args below meth c H locs cells slots Q (F0 m pc lsA (tr X (vi x) :: r.map (tr X))) := by
  obtain ⟨hx, hb, hml, hown, hts, hrt, hlk, hnm, hKS, hRO, hB⟩ := C
  have h10 := hH.1
  refine va_newa (atype := .int) (ty := .int) (N' := (w x).toNat) (a0 := ((w x).toNat, .inl (fun _ => 0))) hx hb (hts _ w_ar_int) rfl hKS.1 hH.2.1 wsO_D hS (hA_of hB) (fun _ => rfl) (by rw [n_0, n_lt]; show ¬ w x < 0; omega) (n_clamp x) (by show (w x).toNat * 4 ≤ _; omega) hc1 hs1 hd (fun q cA H1 g0 g1 g2 g3 => ?_)
  refine W_size (fun hsz => ?_)
  have hq := new_addr h10 g1 g2 (by omega)
  have hcA := arr_cls (t := 0) hKS.1 rfl g0 (fun C z => by cases z)
  subst hq
  subst hcA
  have := K H1 (HR_mk hH (by rw [← wsO_push h10]; exact g1) (show 0 < 3 by decide)) g3
  rw [tr_r (by omega)] at this
  exact this
theorem snd_newB (C : CXM X D aC L xs M p s m args meth c) (hd : decode M.2.1 pc = .ok (.newarray .byte, 2)) (h0 : 0 ≤ w x) (h1 : w x ≤ 500000)
    (hH : HR X D aC L xs h H) (hS : va_S (fun q => X.1 ≤ q) s.heap H locs) (hz : X.1 + h.1 = s.heap.size + cells + 10) (hc1 : cells + 1 ≤ R.cells) (hs1 : slots + (w x).toNat ≤ R.slots)
    (K : ∀ H', HR X D aC L xs (mk1 h (w x).toNat (aI 1 (w x).toNat (fun _ => 0))) H' → va_S (fun q => X.1 ≤ q) s.heap H' locs → W p l e R s m args below meth c H' locs (cells + 1) (slots + (w x).toNat) Q (F0 m (pc + 2) lsA (tr X (vr h.1) :: r.map (tr X)))) :
    W p l e R s m args below meth c H locs cells slots Q (F0 m pc lsA (tr X (vi x) :: r.map (tr X))) := by
  obtain ⟨hx, hb, hml, hown, hts, hrt, hlk, hnm, hKS, hRO, hB⟩ := C
  have h10 := hH.1
  refine va_newa (atype := .byte) (ty := .byte) (N' := (w x).toNat) (a0 := ((w x).toNat, .inl (fun _ => 0))) hx hb (hts _ w_ar_byte) rfl hKS.1 hH.2.1 wsO_D hS (hA_of hB) (fun _ => rfl) (by rw [n_0, n_lt]; show ¬ w x < 0; omega) (n_clamp x) (by show (w x).toNat * 1 ≤ _; omega) hc1 hs1 hd (fun q cA H1 g0 g1 g2 g3 => ?_)
  refine W_size (fun hsz => ?_)
  have hq := new_addr h10 g1 g2 (by omega)
  have hcA := arr_cls (t := 1) hKS.1 rfl g0 (fun C z => by cases z)
  subst hq
  subst hcA
  have := K H1 (HR_mk hH (by rw [← wsO_push h10]; exact g1) (show 1 < 3 by decide)) g3
  rw [tr_r (by omega)] at this
  exact this
theorem snd_newZ (C : CXM X D aC L xs M p s m args meth c) (hd : decode M.2.1 pc = .ok (.newarray .boolean, 2)) (h0 : 0 ≤ w x) (h1 : w x ≤ 500000)
    (hH : HR X D aC L xs h H) (hS : va_S (fun q => X.1 ≤ q) s.heap H locs) (hz : X.1 + h.1 = s.heap.size + cells + 10) (hc1 : cells + 1 ≤ R.cells) (hs1 : slots + (w x).toNat ≤ R.slots)
    (K : ∀ H', HR X D aC L xs (mk1 h (w x).toNat (aI 2 (w x).toNat (fun _ => 0))) H' → va_S (fun q => X.1 ≤ q) s.heap H' locs → W p l e R s m args below meth c H' locs (cells + 1) (slots + (w x).toNat) Q (F0 m (pc + 2) lsA (tr X (vr h.1) :: r.map (tr X)))) :
    W p l e R s m args below meth c H locs cells slots Q (F0 m pc lsA (tr X (vi x) :: r.map (tr X))) := by
  obtain ⟨hx, hb, hml, hown, hts, hrt, hlk, hnm, hKS, hRO, hB⟩ := C
  have h10 := hH.1
  refine va_newa (atype := .boolean) (ty := .boolean) (N' := (w x).toNat) (a0 := ((w x).toNat, .inl (fun _ => 0))) hx hb (hts _ w_ar_boolean) rfl hKS.1 hH.2.1 wsO_D hS (hA_of hB) (fun _ => rfl) (by rw [n_0, n_lt]; show ¬ w x < 0; omega) (n_clamp x) (by show (w x).toNat * 1 ≤ _; omega) hc1 hs1 hd (fun q cA H1 g0 g1 g2 g3 => ?_)
  refine W_size (fun hsz => ?_)
  have hq := new_addr h10 g1 g2 (by omega)
  have hcA := arr_cls (t := 2) hKS.1 rfl g0 (fun C z => by cases z)
  subst hq
  subst hcA
  have := K H1 (HR_mk hH (by rw [← wsO_push h10]; exact g1) (show 2 < 3 by decide)) g3
  rw [tr_r (by omega)] at this
  exact this
theorem snd_newJ (C : CXM X D aC L xs M p s m args meth c) (hd : decode M.2.1 pc = .ok (.newarray .long, 2)) (h0 : 0 ≤ w x) (h1 : w x ≤ 500000)
    (hH : HR X D aC L xs h H) (hS : va_S (fun q => X.1 ≤ q) s.heap H locs) (hz : X.1 + h.1 = s.heap.size + cells + 10) (hc1 : cells + 1 ≤ R.cells) (hs1 : slots + (w x).toNat ≤ R.slots)
    (K : ∀ H', HR X D aC L xs (mk1 h (w x).toNat (aL (w x).toNat (fun _ => 0))) H' → va_S (fun q => X.1 ≤ q) s.heap H' locs → W p l e R s m args below meth c H' locs (cells + 1) (slots + (w x).toNat) Q (F0 m (pc + 2) lsA (tr X (vr h.1) :: r.map (tr X)))) :
    W p l e R s m args below meth c H locs cells slots Q (F0 m pc lsA (tr X (vi x) :: r.map (tr X))) := by
  obtain ⟨hx, hb, hml, hown, hts, hrt, hlk, hnm, hKS, hRO, hB⟩ := C
  have h10 := hH.1
  refine va_newa (atype := .long) (ty := .long) (N' := (w x).toNat) (a0 := ((w x).toNat, .inr (.inl (fun _ => 0)))) hx hb (hts _ w_ar_long) rfl hKS.1 hH.2.1 wsO_D hS (hA_of hB) (fun _ => rfl) (by rw [n_0, n_lt]; show ¬ w x < 0; omega) (n_clamp x) (by show (w x).toNat * 8 ≤ _; omega) hc1 hs1 hd (fun q cA H1 g0 g1 g2 g3 => ?_)
  refine W_size (fun hsz => ?_)
  have hq := new_addr h10 g1 g2 (by omega)
  have hcA := arr_cls (t := 3) hKS.1 rfl g0 (fun C z => by cases z)
  subst hq
  subst hcA
  have := K H1 (HR_mk hH (by rw [← wsO_push h10]; exact g1) trivial) g3
  rw [tr_r (by omega)] at this
  exact this
theorem snd_anew (C : CXM X D aC L xs M p s m args meth c) (hd : decode M.2.1 pc = .ok (.anewarray k, 3)) (hcl : cls M.2.2.2.2 k = some 6) (h0 : 0 ≤ w x) (h1 : w x ≤ 500000)
    (hH : HR X D aC L xs h H) (hS : va_S (fun q => X.1 ≤ q) s.heap H locs) (hz : X.1 + h.1 = s.heap.size + cells + 10) (hc1 : cells + 1 ≤ R.cells) (hs1 : slots + (w x).toNat ≤ R.slots)
    (K : ∀ H', HR X D aC L xs (mk1 h (w x).toNat (aR 0 (w x).toNat (fun _ => none))) H' → va_S (fun q => X.1 ≤ q) s.heap H' locs → W p l e R s m args below meth c H' locs (cells + 1) (slots + (w x).toNat) Q (F0 m (pc + 3) lsA (tr X (vr h.1) :: r.map (tr X)))) :
    W p l e R s m args below meth c H locs cells slots Q (F0 m pc lsA (tr X (vi x) :: r.map (tr X))) := by
  obtain ⟨hx, hb, hml, hown, hts, hrt, hlk, hnm, hKS, hRO, hB⟩ := C
  have h10 := hH.1
  have hw := cls_ok hcl
  refine va_newq (C := "BearerKin$Moment") (N' := (w x).toNat) hx hb hown (hts _ hw) hKS.2.2.2.1 hKS.1 hH.2.1 wsO_D hS (hA_of hB) (by rw [n_0, n_lt]; show ¬ w x < 0; omega) (n_clamp x) (by omega) hc1 hs1 hd (fun q cA H1 g0 g1 g2 g3 => ?_)
  refine W_size (fun hsz => ?_)
  have hq := new_addr h10 g1 g2 (by omega)
  have hcA : cA = aC 4 := by
    obtain ⟨kA, comp, -, -, -, a1⟩ := (hKS.1.2 4 _ rfl).2
    obtain ⟨kB, comp', -, -, -, a2⟩ := (g0.2 6 (cA, .object "BearerKin$Moment") rfl).2
    exact Option.some.inj (a2.symm.trans a1)
  subst hq
  subst hcA
  have := K H1 (HR_mk hH (by rw [← wsO_push h10]; exact g1) (show 0 < 2 by decide)) g3
  rw [tr_r (by omega)] at this
  exact this
theorem int_name (hK : va_K D clsL (tysL aC) s) : s.vm.findClass "[I" = some (aC 0) := (hK.2 0 _ rfl).2
theorem snd_cast {n : Nat} {f : Int → Int} (C : CXM X D aC L xs M p s m args meth c) (hd : decode M.2.1 pc = .ok (.checkcast k, 3)) (hcl : cls M.2.2.2.2 k = some 101) (hc : hp h a = aI 0 n f) (ha : 10 ≤ a)
    (hH : HR X D aC L xs h H) (K : W p l e R s m args below meth c H locs cells slots Q (F0 m (pc + 3) lsA (tr X (vr a) :: r.map (tr X)))) :
    W p l e R s m args below meth c H locs cells slots Q (F0 m pc lsA (tr X (vr a) :: r.map (tr X))) := by
  obtain ⟨hx, hb, hml, hown, hts, hrt, hlk, hnm, hKS, hRO, hB⟩ := C
  have hb2 : a < h.1 := by
    rcases HR_old hH (a := a) (by rw [hc]; intro z; cases z) with z | z
    · omega
    · exact z.2
  obtain ⟨h3, h4⟩ := HR_at hH ha hb2 hc
  have hw := cls_ok hcl
  rw [tr_r (by omega)] at K ⊢
  exact va_castA hx hb hown (hts _ hw) hH.2.1 (a - 10) h3 (int_name hKS.1) hd K
theorem wd_cat {r : List PV} : ((r.map (tr X)).map fun v => v.category).sum = wd r := by
  induction r with
  | nil => rfl
  | cons v r ih =>
    rw [List.map_cons, List.map_cons, List.sum_cons, ih]
    rcases v with x | x | x
    · rfl
    · rfl
    · show (va_rf _).category + wd r = 1 + wd r
      cases x.bind (adO X) <;> rfl
theorem snd_obj (C : CXM X D aC L xs M p s m args meth c) (hd : decode M.2.1 pc = .ok (.invokespecial k, 3)) (hk : mth M.2.2.2.2 k = some (3, 0, 0)) (ha : 10 ≤ a) (hwd : wd r ≤ 8) (hlen : lsA.size = M.2.2.1) (hr1 : 1 ≤ R.frames) (hr2 : 48 ≤ R.locals)
    (K : W p l e R s m args below meth c H locs cells slots Q (F0 m (pc + 3) lsA (r.map (tr X)))) :
    W p l e R s m args below meth c H locs cells slots Q (F0 m pc lsA (tr X (vr a) :: r.map (tr X))) := by
  obtain ⟨hx, hb, hml, hown, hts, hrt, hlk, hnm, hKS, hRO, hB⟩ := C
  rw [tr_r (by omega)]
  exact W.objInit hx hb hown (hts _ (mth_obj hk)) (hts _ w_oi) (hts _ w_oc) rfl (by rw [hml]; exact hlen) rfl hd hr1 (by show 2 * 0 + _ + 12 ≤ _; rw [wd_cat]; omega) K
theorem snd_clone {n : Nat} {f : Int → Int} (C : CXM X D aC L xs M p s m args meth c) (hd : decode M.2.1 pc = .ok (.invokevirtual k, 3)) (hk : mth M.2.2.2.2 k = some (4, 0, 0)) (hc : hp h a = aI 0 n f) (ha : 10 ≤ a) (hwd : wd r ≤ 8) (hlen : lsA.size = M.2.2.1) (hr1 : 1 ≤ R.frames) (hr2 : 48 ≤ R.locals)
    (hH : HR X D aC L xs h H) (hS : va_S (fun q => X.1 ≤ q) s.heap H locs) (hz : X.1 + h.1 = s.heap.size + cells + 10) (hc1 : cells + 1 ≤ R.cells) (hs1 : slots + n ≤ R.slots)
    (K : ∀ H', HR X D aC L xs (mk1 h n (aI 0 n f)) H' → va_S (fun q => X.1 ≤ q) s.heap H' locs → W p l e R s m args below meth c H' locs (cells + 1) (slots + n) Q (F0 m (pc + 3) lsA (tr X (vr h.1) :: r.map (tr X)))) :
    W p l e R s m args below meth c H locs cells slots Q (F0 m pc lsA (tr X (vr a) :: r.map (tr X))) := by
  obtain ⟨hx, hb, hml, hown, hts, hrt, hlk, hnm, hKS, hRO, hB⟩ := C
  have h10 := hH.1
  have hb2 : a < h.1 := by
    rcases HR_old hH (a := a) (by rw [hc]; intro z; cases z) with z | z
    · omega
    · exact z.2
  obtain ⟨h3, h4⟩ := HR_at hH ha hb2 hc
  rw [tr_r (by omega)]
  refine va_clone (ad := "[I") hx hb (by rw [hml]; exact hlen.symm) hown (hts _ (mth_clone hk)) (hts _ w_csm) (hts _ w_cn) (hts _ w_ci) (hts _ w_cs) hKS.2.2.1 hKS.1 hH.2.1 wsO_D hS (hA_of hB) (a - 10) 0 (ty := .int) h3 rfl (int_name hKS.1) ?_ hr1 (by rw [wd_cat]; omega) hc1 hs1 hd (fun q H1 g0 g1 g2 g3 => ?_)
  · intro i v hv
    have hv2 : (arrV (aC 0) n (fun j => .int (Int32.ofInt (f j)))).slots[i]? = some v := hv
    by_cases hi : i < n
    · rw [arrV_read _ _ hi] at hv2
      cases hv2
      rfl
    · rw [Array.getElem?_eq_none (by rw [arrV_size]; omega)] at hv2
      cases hv2
  · refine W_size (fun hsz => ?_)
    have hq := new_addr h10 g1 g2 (by omega)
    subst hq
    have := K H1 (HR_mk hH (by rw [← wsO_push h10]; exact g1) (show 0 < 3 by decide)) g3
    rw [tr_r (by omega)] at this
    exact this
theorem snd_copy {n0 n1 b : Nat} {f g : Int → Int} {sp dp ln : Int} (C : CXM X D aC L xs M p s m args meth c) (hd : decode M.2.1 pc = .ok (.invokestatic k, 3)) (hk : mth M.2.2.2.2 k = some (5, 0, 0)) (hca : hp h a = aI 0 n0 f) (hcb : hp h b = aI 0 n1 g) (ha : 10 ≤ a) (hbb : 10 ≤ b) (hwd : wd r ≤ 8) (hlen : lsA.size = M.2.2.1) (hr1 : 1 ≤ R.frames) (hr2 : 48 ≤ R.locals)
    (q1 : 0 ≤ w sp) (q2 : 0 ≤ w dp) (q3 : 0 ≤ w ln) (q4 : w sp + w ln ≤ n0) (q5 : w dp + w ln ≤ n1)
    (hH : HR X D aC L xs h H) (hS : va_S (fun q => X.1 ≤ q) s.heap H locs)
    (K : ∀ H' locs', HR X D aC L xs (hup h b (aI 0 n1 (fun j => if w dp ≤ j ∧ j < w dp + w ln then f (j - w dp + w sp) else g j))) H' → va_S (fun q => X.1 ≤ q) s.heap H' locs' → W p l e R s m args below meth c H' locs' cells slots Q (F0 m (pc + 3) lsA (r.map (tr X)))) :
    W p l e R s m args below meth c H locs cells slots Q (F0 m pc lsA (tr X (vi ln) :: tr X (vi dp) :: tr X (vr b) :: tr X (vi sp) :: tr X (vr a) :: r.map (tr X))) := by
  obtain ⟨hx, hb, hml, hown, hts, hrt, hlk, hnm, hKS, hRO, hB⟩ := C
  have lt : ∀ {z : Nat} {n : Nat} {f : Int → Int}, hp h z = aI 0 n f → 10 ≤ z → z < h.1 := by
    intro z n f hc hz
    rcases HR_old hH (a := z) (by rw [hc]; intro z; cases z) with q | q
    · omega
    · exact q.2
  obtain ⟨h3, h4⟩ := HR_at hH ha (lt hca ha) hca
  obtain ⟨h5, h6⟩ := HR_at hH hbb (lt hcb hbb) hcb
  rw [tr_r (by omega), tr_r (by omega)]
  have hnf : nativeFrameWords "java/lang/System" "arraycopy" 5 + 11 ≤ 40 := by decide +kernel
  refine va_copyi hx hb (by rw [hml]; exact hlen.symm) hown (hts _ (mth_copy hk)) (hts _ w_an) (hts _ w_as) (hts _ w_ai) hKS.1 hH.2.1 wsO_D hS (a - 10) (b - 10) 0 0 (ty := .int) h3 h5 rfl rfl rfl (by rw [n_0, n_lt]; show ¬ w sp < 0; omega) (by rw [n_0, n_lt]; show ¬ w dp < 0; omega) (by rw [n_0, n_lt]; show ¬ w ln < 0; omega) (by rw [n_clamp, n_clamp]; omega) (by rw [n_clamp, n_clamp]; omega) (fun i _ => rfl) hr1 (by rw [wd_cat]; omega) hd (fun H' locs' g1 _ g3 => ?_)
  refine K H' locs' (HR_up hH hbb (lt hcb hbb) ?_ (show 0 < 3 by decide)) g3
  rw [← wsO_set hbb]
  have e1 : (va_cpy (fun j : Nat => Int32.ofInt (f j)) (fun j : Nat => Int32.ofInt (g j)) (Int32.ofInt sp).toNatClampNeg (Int32.ofInt dp).toNatClampNeg (Int32.ofInt ln).toNatClampNeg) = (fun j : Nat => Int32.ofInt (if w dp ≤ (j : Int) ∧ (j : Int) < w dp + w ln then f ((j : Int) - w dp + w sp) else g j)) := by
    funext j
    unfold va_cpy
    rw [n_clamp, n_clamp, n_clamp]
    by_cases hj : w dp ≤ (j : Int) ∧ (j : Int) < w dp + w ln
    · rw [if_pos hj, if_pos (by omega)]
      have e9 : (((w sp).toNat + (j - (w dp).toNat) : Nat) : Int) = (j : Int) - w dp + w sp := by omega
      dsimp only
      rw [e9]
    · rw [if_neg hj, if_neg (by omega)]
  have e2 : ((wsO X aC h).set (b - 10) (adr X b, .inl (aC 0, n1, .inl (va_cpy (fun j : Nat => Int32.ofInt (f j)) (fun j : Nat => Int32.ofInt (g j)) (Int32.ofInt sp).toNatClampNeg (Int32.ofInt dp).toNatClampNeg (Int32.ofInt ln).toNatClampNeg)))) = (wsO X aC h).set (b - 10) (adr X b, toE X aC (aI 0 n1 (fun j => if w dp ≤ j ∧ j < w dp + w ln then f (j - w dp + w sp) else g j))) := by
    rw [e1]
    rfl
  rw [← e2]
  exact g1
theorem snd_ldc {v : PV} (C : CXM X D aC L xs M p s m args meth c) (hd : decode M.2.1 pc = .ok (.ldc k, 2)) (hv : kst M.2.2.2.2 k = some v)
    (K : W p l e R s m args below meth c H locs cells slots Q (F0 m (pc + 2) lsA (tr X v :: r.map (tr X)))) :
    W p l e R s m args below meth c H locs cells slots Q (F0 m pc lsA (r.map (tr X))) := by
  obtain ⟨hx, hb, hml, hown, hts, hrt, hlk, hnm, hKS, hRO, hB⟩ := C
  unfold kst at hv
  split at hv
  · next z hz =>
    cases hv
    exact lv_ldc hx hb hown (hts _ (kst_ok hz)) hd K
  · next z hz =>
    cases hv
    obtain ⟨-, -, -, -, -, s1, s2, s3, s4⟩ := hKS
    rcases str_ok hz with ⟨e1, rfl, rfl⟩ | ⟨e1, rfl, rfl⟩ | ⟨e1, rfl, rfl⟩ | ⟨e1, rfl, rfl⟩
    · rw [e1] at hown; exact va_ldcS hx hb hown s1 hd K
    · rw [e1] at hown; exact va_ldcS hx hb hown s2 hd K
    · rw [e1] at hown; exact va_ldcS hx hb hown s3 hd K
    · rw [e1] at hown; exact va_ldcS hx hb hown s4 hd K
  · cases hv
theorem snd_ldcw {v : PV} (C : CXM X D aC L xs M p s m args meth c) (hd : decode M.2.1 pc = .ok (.ldc_w k, 3)) (hv : kst M.2.2.2.2 k = some v) (hi : ∃ z, v = vi z)
    (K : W p l e R s m args below meth c H locs cells slots Q (F0 m (pc + 3) lsA (tr X v :: r.map (tr X)))) :
    W p l e R s m args below meth c H locs cells slots Q (F0 m pc lsA (r.map (tr X))) := by
  obtain ⟨hx, hb, hml, hown, hts, hrt, hlk, hnm, hKS, hRO, hB⟩ := C
  unfold kst at hv
  split at hv
  · next z hz =>
    cases hv
    exact lv_ldcw hx hb hown (hts _ (kst_ok hz)) hd K
  · obtain ⟨z, rfl⟩ := hi
    cases hv
  · cases hv
theorem snd_gets {v : PV} (C : CXM X D aC L xs M p s m args meth c) (hd : decode M.2.1 pc = .ok (.getstatic k, 3)) (hv : sta M.2.2.2.2 k = some v) (hS : va_S (fun q => X.1 ≤ q) s.heap H locs)
    (K : W p l e R s m args below meth c H locs cells slots Q (F0 m (pc + 3) lsA (tr X v :: r.map (tr X)))) :
    W p l e R s m args below meth c H locs cells slots Q (F0 m pc lsA (r.map (tr X))) := by
  obtain ⟨hx, hb, hml, hown, hts, hrt, hlk, hnm, hKS, hRO, hB⟩ := C
  obtain ⟨-, -, z1, z2⟩ := hRO
  unfold sta at hv
  split at hv
  · next z hz =>
    cases hv
    rcases sta_ok hz with ⟨e1, rfl, -, rfl⟩ | ⟨-, -, q, -⟩
    · rw [e1] at hown; exact va_gets hx hb z1 hS hown (hts _ w_st_38) (fun _ q => q) hd K
    · cases q
  · next z hz =>
    cases hv
    rcases sta_ok hz with ⟨-, -, q, -⟩ | ⟨e1, rfl, -, rfl⟩
    · cases q
    · rw [e1] at hown; exact va_gets hx hb z2 hS hown (hts _ w_st_1053) (fun _ q => q) hd K
  · cases hv
theorem snd_mna (C : CXM X D aC L xs M p s m args meth c) (hd : decode M.2.1 pc = .ok (.multianewarray k 2, 4)) (hcl : cls M.2.2.2.2 k = some 100) (h0 : 0 ≤ w x) (h1 : w x ≤ 500) (h2 : 0 ≤ w y) (h3 : w y ≤ 500)
    (hH : HR X D aC L xs h H) (hS : va_S (fun q => X.1 ≤ q) s.heap H locs) (hz : X.1 + h.1 = s.heap.size + cells + 10) (hsz : H.size ≤ s.heap.size + cells) (hsl : X.1 + (h.1 - 10) ≤ H.size) (hc1 : cells + (1 + (w x).toNat) ≤ R.cells) (hs1 : slots + ((w x).toNat + (w x).toNat * (w y).toNat) ≤ R.slots)
    (K : ∀ H', HR X D aC L xs (mkN h (w x).toNat (w y).toNat) H' → va_S (fun q => X.1 ≤ q) s.heap H' locs → W p l e R s m args below meth c H' locs (cells + 1 + (w x).toNat) (slots + (w x).toNat + (w x).toNat * (w y).toNat) Q (F0 m (pc + 4) lsA (tr X (vr h.1) :: r.map (tr X)))) :
    W p l e R s m args below meth c H locs cells slots Q (F0 m pc lsA (tr X (vi y) :: tr X (vi x) :: r.map (tr X))) := by
  obtain ⟨hx, hb, hml, hown, hts, hrt, hlk, hnm, hKS, hRO, hB⟩ := C
  have h10 := hH.1
  have hHs : H.size = X.1 + (h.1 - 10) := by omega
  have hw := cls_ok hcl
  have hcI : (Int32.ofInt x).toNatClampNeg = (w x).toNat := n_clamp x
  have hcJ : (Int32.ofInt y).toNatClampNeg = (w y).toNat := n_clamp y
  intro T hT Xs
  obtain ⟨vm₁, cA, comp, -, fA, fC, hO, -, X', step⟩ := Xs.multianewarray2F hx hown (ty := .int) (hts _ hw) (va_AOA.use hKS.2.2.2.2.1) (hts _ w_ar_int) (g := F0 m pc lsA (.int (Int32.ofInt y) :: .int (Int32.ofInt x) :: r.map (tr X))) rfl (by rw [hb]; exact hd) rfl (by rw [n_0, n_lt]; show ¬ w x < 0; omega) (by rw [n_0, n_lt]; show ¬ w y < 0; omega) (by rw [hcI]; omega) (by rw [hcJ]; show (w y).toNat * 4 ≤ _; omega) (by rw [hcJ]; omega) rfl rfl (by rw [hcI]; exact hc1) (by rw [hcI, hcJ]; exact hs1)
  have ecp : comp = aC 0 := Option.some.inj (fC.symm.trans (int_name hKS.1))
  have ecA : cA = aC 5 := Option.some.inj (fA.symm.trans (hKS.1.2 5 _ rfl).2)
  subst ecp
  subst ecA
  generalize hF : Jvm.Free.Multi.fill (T.setVm vm₁) (aC 5) (aC 0) (Int32.ofInt x).toNatClampNeg (Int32.ofInt y).toNatClampNeg (defaultValue .int) (Int32.ofInt x).toNatClampNeg = F at X' step
  have hTh : (T.setVm vm₁).heap = H := hT
  obtain ⟨f1, f2, -, -⟩ := Jvm.Free.Multi.fill_facts (T.setVm vm₁) (aC 5) (aC 0) (Int32.ofInt x).toNatClampNeg (Int32.ofInt y).toNatClampNeg (defaultValue .int) (Int32.ofInt x).toNatClampNeg
  rw [hF, hTh] at f1 f2
  have hold : ∀ x1 : Nat, x1 < H.size → F.heap[x1]? = H[x1]? := fun x1 hx1 => by
    have := Jvm.Free.Multi.fill_old (T.setVm vm₁) (aC 5) (aC 0) (Int32.ofInt x).toNatClampNeg (Int32.ofInt y).toNatClampNeg (defaultValue .int) (a := x1) (by rw [hTh]; exact hx1) (Int32.ofInt x).toNatClampNeg
    rw [hF, hTh] at this
    exact this
  have hrow : ∀ j : Nat, j < (w x).toNat → F.heap[H.size + 1 + j]? = some (vp_cell (aC 0) ((w y).toNat, .inl (fun _ => 0))) := fun j hj => by
    have := Jvm.Free.Multi.fill_inner (T.setVm vm₁) (aC 5) (aC 0) (Int32.ofInt x).toNatClampNeg (Int32.ofInt y).toNatClampNeg (defaultValue .int) (Int32.ofInt x).toNatClampNeg j (by rw [hcI]; exact hj)
    rw [hF, hTh, hcJ] at this
    rw [this]
    congr 1
    show _ = arrV (aC 0) (w y).toNat (fun _ => defaultValue .int)
    rw [← arrV_new]
    rfl
  have hout : Jvm.Free.Multi.outerC (aC 5) (Int32.ofInt x).toNatClampNeg H.size (Int32.ofInt x).toNatClampNeg = vp_cell (aC 5) ((w x).toNat, .inr (.inr (.inr (.inr (fun i => if i < (w x).toNat then some (H.size + 1 + i) else none))))) := by
    rw [vp_cell_q, hcI]
    exact vr_outer (aC 5) (w x).toNat H.size (w x).toNat
  rw [hout] at f2
  rw [hcI] at f1
  have hP' : va_P D clsL (wsO X aC (mkN h (w x).toNat (w y).toNat)) F.heap := by
    intro j q hq
    obtain ⟨hj, rfl⟩ := wsO_inv hq
    have hj' : j < h.1 + 1 + (w x).toNat - 10 := hj
    rcases Nat.lt_trichotomy (j + 10) h.1 with z | z | z
    · have e1 : hp (mkN h (w x).toNat (w y).toNat) (j + 10) = hp h (j + 10) := by
        unfold hp mkN
        dsimp only
        rw [if_neg (by omega), if_neg (by omega)]
      rw [e1]
      have a1 := wsO_at (X := X) (aC := aC) (h := h) (k := j + 10) (by omega) z
      rw [show j + 10 - 10 = j by omega, adr_hi (by omega), show j + 10 - 10 = j by omega] at a1
      exact (hH.2.1 _ _ a1).kept (hold _ (by show X.1 + j < _; omega))
    · have e1 : hp (mkN h (w x).toNat (w y).toNat) (j + 10) = aR 1 (w x).toNat (fun j => if 0 ≤ j ∧ j < (w x).toNat then some (h.1 + 1 + j.toNat) else none) := by
        unfold hp mkN
        dsimp only
        rw [if_pos z]
      rw [e1]
      show F.heap[X.1 + j]? = _
      rw [show X.1 + j = H.size by omega, f2]
      congr 2
      show _ = ((w x).toNat, Sum.inr (Sum.inr (Sum.inr (Sum.inr (fun j : Nat => (if 0 ≤ (j : Int) ∧ (j : Int) < ((w x).toNat : Int) then some (h.1 + 1 + (j : Int).toNat) else none).bind (adO X))))))
      congr 5
      funext i
      by_cases hi : i < (w x).toNat
      · rw [if_pos hi, if_pos (by omega), Option.bind_some, adO_ne (by omega), adr_hi (by omega)]
        congr 1
        omega
      · rw [if_neg hi, if_neg (by omega)]
        rfl
    · have e1 : hp (mkN h (w x).toNat (w y).toNat) (j + 10) = aI 0 (w y).toNat (fun _ => 0) := by
        unfold hp mkN
        dsimp only
        rw [if_neg (by omega), if_pos (by omega)]
      rw [e1]
      show F.heap[X.1 + j]? = _
      have := hrow (j + 10 - h.1 - 1) (by omega)
      rw [show H.size + 1 + (j + 10 - h.1 - 1) = X.1 + j by omega] at this
      exact this
  have hHR : HR X D aC L xs (mkN h (w x).toNat (w y).toNat) F.heap := by
    refine ⟨by show 10 ≤ h.1 + 1 + (w x).toNat; omega, hP', fun k1 q1 q2 => ?_, fun k1 q => ?_, fun k1 q => ?_⟩
    · have q2' : k1 < h.1 + 1 + (w x).toNat := q2
      unfold hp mkN
      dsimp only
      by_cases e1 : k1 = h.1
      · rw [if_pos e1]; exact (show 1 < 2 by decide)
      · rw [if_neg e1]
        by_cases e2 : h.1 < k1 ∧ k1 < h.1 + 1 + (w x).toNat
        · rw [if_pos e2]; exact (show 0 < 3 by decide)
        · rw [if_neg e2]; exact hH.2.2.1 k1 q1 (by omega)
    · unfold hp mkN
      dsimp only
      rw [if_neg (by omega), if_neg (by omega)]
      exact hH.2.2.2.1 k1 q
    · have q' : h.1 + 1 + (w x).toNat ≤ k1 := q
      unfold hp mkN
      dsimp only
      rw [if_neg (by omega), if_neg (by omega)]
      exact hH.2.2.2.2 k1 (by omega)
  have hK9 := K F.heap hHR ⟨by rw [f1]; have := hS.1; omega, fun x1 g1 g2 => (hold x1 (Nat.lt_of_lt_of_le g1 hS.1)).trans (hS.2.1 x1 g1 g2), hS.2.2⟩
  rw [hcI, hcJ] at X'
  obtain ⟨t, a1, b1⟩ := hK9 F rfl (by simpa [Nat.add_assoc] using X')
  refine ⟨t, step t ?_, b1⟩
  have e9 : T.heap.size = H.size := by rw [hT]
  rw [e9]
  rw [tr_r (by omega), adr_hi (by omega), ← hHs] at a1
  exact a1
end SNM

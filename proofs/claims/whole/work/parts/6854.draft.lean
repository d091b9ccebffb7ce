/-! READING A COUNTY: the draft, lines of heights, ways, bears, weather -/
def lwC (C : List Int) (fr tt : Int) (x : Option (List Int)) : Prop := match x with
  | none => fr = -1
  | some o => ∃ f : Nat, fr = (f : Int) ∧ tt = ((f + o.length : Nat) : Int) ∧ f + o.length ≤ C.length ∧ ∀ k, k < o.length → C.getD (f + k) 0 = o.getD k 0
def lwR (f : Int → Int) (CL l : Nat) (x : Option (List Int)) : Prop := match x with
  | none => f (3 + (l : Int)) = 0
  | some o => f (3 + (l : Int)) = 1 ∧ f (7 + (l : Int)) = (o.length : Int) ∧ ∃ g : Nat, f (5 + (l : Int)) = (g : Int) ∧ g + o.length ≤ CL ∧ ∀ i, i < o.length → f (123 + (g : Int) + (i : Int)) = trO l (o.getD i 0)
/-- the class's draft of a county -/
def rdD (j : Nat → Int) (A : Nat → Int → Int) (C : List Int) (c : KC) : Prop := j 3 = (kP c : Int) ∧ j 4 = (kN c : Int) ∧ j 12 = (kLines c : Int) ∧ j 11 = (kSky c : Int) ∧ j 10 = ((kFst c).1 : Int) ∧ (∀ k : Nat, k < 5 → A 15 k = (kHgt c k : Int) ∧ A 16 k = (kWay c k : Int)) ∧ (∀ p : Nat, p < kN c → A 17 p = ((kFst c).2.1 p : Int) ∧ A 18 p = (kAge c p : Int) ∧ A 19 p = ((kFst c).2.2 p : Int)) ∧ lwC C (j 13) (j 14) (kTir c) ∧ lwC C (j 15) (j 16) (kMay c)
/-- the reference's draft -/
def frD (A : Nat → Int → Int) (CL : Nat) (c : KC) : Prop := A 75 0 = (kLines c : Int) ∧ A 75 1 = (kP c : Int) ∧ A 75 2 = (kN c : Int) ∧ (∀ k : Nat, k < 5 → A 75 (9 + (k : Int)) = (kHgt c k : Int) ∧ A 75 (14 + (k : Int)) = (kWay c k : Int)) ∧ (∀ p : Nat, p < 3 → A 75 (19 + (p : Int)) = (kAge c p : Int) ∧ A 75 (22 + (p : Int)) = ((kFst c).2.1 p : Int) ∧ A 75 (25 + (p : Int)) = ((kFst c).2.2 p : Int)) ∧ A 75 28 = ((kFst c).1 : Int) ∧ A 75 29 = (kSky c : Int) ∧ A 75 30 = 0 ∧ A 75 31 = 0 ∧ A 75 122 = (CL : Int) ∧ CL ≤ 900 ∧ lwR (A 75) CL 0 (kTir c) ∧ lwR (A 75) CL 1 (kMay c)
def okD (c : KC) : Prop := okK c ∧ (∀ k, kHgt c k ≤ 9) ∧ (∀ k, kAge c k ≤ 9) ∧ (∀ k, kWay c k < 32) ∧ kSky c ≤ 9 ∧ okS c (kFst c) ∧ (∀ o, kTir c = some o → goodL false o) ∧ (∀ o, kMay c = some o → goodL true o) ∧ (∀ k, kWay c k / 2 ^ k % 2 = 0) ∧ ((∀ k j, kP c ≤ j → kWay c k / 2 ^ j % 2 = 0) ∧ ∀ p, kN c ≤ p → kAge c p = 0)
def LNp (n q : Nat) (c : KC) (s' : TS) (c' : KC) (C' : List Int) : Prop := ∀ q', s' = .inl q' → q < q' ∧ q' ≤ n ∧ okD c' ∧ C'.length ≤ q' ∧ kLines c' = kLines c
def LNc (b : List Int) (n F cm pc : Nat) (tl : PL) (q : Nat) (c : KC) (C : List Int) (s' : TS) (c' : KC) (C' : List Int) : Prop := ∀ (h : PH) (i j : Nat → Int) (A : Nat → Int → Int), txE h → tapC b A → clT b n i (.inl q) → rdD j A C c → cdC j A C True → ∃ i' j' A', clT b n i' (nrm b n s') ∧ (alC b n s' → rdD j' A' C' c') ∧ cdC j' A' C' (alC b n s') ∧ frI [3, 4, 5, 6, 7, 8] i i' ∧ frA [14, 15, 16, 17, 18, 19] A A' ∧ ∀ d Q, F ≤ d → WP d cm pc (some (vr 13) :: tl) [] (rdH h i j A) Q = Q none (rdH h i' j' A')
def LNf (b : List Int) (n G rm pc : Nat) (tl : PL) (q : Nat) (c : KC) (C : List Int) (s' : TS) (c' : KC) (C' : List Int) : Prop := ∀ (h : PH) (i : Nat → Int) (A : Nat → Int → Int), txE h → tapM b A → rfT b n i (.inl q) → frD A C.length c → ∃ i' A', rfT b n i' s' ∧ (alR s' → frD A' C'.length c') ∧ frI [6, 7, 9, 10, 11, 12, 15] i i' ∧ frA [75] A A' ∧ ∀ d Q, G ≤ d → WP d rm pc (some (vr 71) :: tl) [] (mdH h i A) Q = Q none (mdH h i' A')
theorem lwR_fr {f g : Int → Int} {CL l : Nat} {x : Option (List Int)} (hl : l < 2) (h : ∀ y : Int, (3 ≤ y ∧ y ≤ 8) ∨ (123 ≤ y ∧ y < 123 + (CL : Int)) → g y = f y) (hf : lwR f CL l x) : lwR g CL l x := by
  cases x with
  | none => show g (3 + (l : Int)) = 0; rw [h _ (by omega)]; exact hf
  | some o =>
    obtain ⟨h1, h2, gg, h3, h4, h5⟩ := hf
    refine ⟨by rw [h _ (by omega)]; exact h1, by rw [h _ (by omega)]; exact h2, gg, by rw [h _ (by omega)]; exact h3, h4, fun i hi => ?_⟩
    rw [h _ (by omega)]; exact h5 i hi
section ln
variable {b : List Int} {n q : Nat} {c : KC} {C : List Int}
theorem nu_O {lo hi oth x : Int} {s : TS} {q' : Nat} (hq : okq n s) (h : nuO b n lo hi oth s = some (q', x)) : ∃ q, s = .inl q ∧ tkK b n q = 30 ∧ lo ≤ x ∧ x ≤ hi ∧ x ≠ oth ∧ q < q' ∧ q' ≤ n := by
  match s, hq, h with
  | .inl q, hq, h =>
    unfold nuO at h
    dsimp only at h
    split at h
    · next z =>
      cases h
      have := hq q rfl
      exact ⟨q, rfl, z.1, z.2.1, z.2.2.1, z.2.2.2, tkE_lt this (by omega), (tkE_le this).2⟩
    · cases h
  | .inr x, hq, h => cases h
theorem nu_al {lo hi oth : Int} {s : TS} {q' : Nat} (h : nuS b n lo hi oth s = .inl q') : ∃ x, nuO b n lo hi oth s = some (q', x) := by
  unfold nuS at h
  cases e : nuO b n lo hi oth s with
  | none => rw [e] at h; exact absurd ⟨q', h⟩ rf_no
  | some y =>
    obtain ⟨q1, x⟩ := y
    rw [e] at h
    cases h
    exact ⟨x, rfl⟩
theorem nu_ok {lo hi oth : Int} {s : TS} (hq : okq n s) : okq n (nuS b n lo hi oth s) := fun q' e => by
  obtain ⟨x, h⟩ := nu_al e
  obtain ⟨_, _, _, _, _, _, _, h7⟩ := nu_O hq h
  exact h7
theorem rf_wr {i : Nat → Int} {s : TS} (hr : rfT b n i s) : (alR s → i 11 = 0) ∧ (¬ alR s → 1 ≤ i 11 ∧ i 11 ≤ 4) := by
  match s, hr with
  | .inl q, hr => exact ⟨fun _ => hr.2.2.1, fun z => absurd ⟨q, rfl⟩ z⟩
  | .inr (f, a), hr => exact ⟨fun z => (by obtain ⟨q, z⟩ := z; cases z), fun _ => by rw [hr.2.1]; exact hr.2.2.2⟩
-- counties with one thing changed
def kH (c : KC) (f : Nat → Nat) : KC := (kP c, kN c, kLines c, kSky c, f, kWay c, kAge c, kTir c, kMay c, kFst c)
def kW (c : KC) (f : Nat → Nat) : KC := (kP c, kN c, kLines c, kSky c, kHgt c, f, kAge c, kTir c, kMay c, kFst c)
def kB (c : KC) (v : Nat) : KC := (kP c, kN c, kLines c, kSky c, kHgt c, kWay c, kAge c, kTir c, kMay c, (v, (kFst c).2))
def kY (c : KC) (v : Nat) : KC := (kP c, kN c, kLines c, v, kHgt c, kWay c, kAge c, kTir c, kMay c, kFst c)
theorem cd_t {j : Nat → Int} {A : Nat → Int → Int} {C : List Int} {P R : Prop} (h : cdC j A C P) (hp : R → P) : cdC j A C R := ⟨h.1, fun z => h.2 (hp z)⟩
theorem cd_fr {j j' : Nat → Int} {A A' : Nat → Int → Int} {C : List Int} {P : Prop} (h : cdC j A C P) (h1 : j' 2 = j 2) (h2 : A' 14 = A 14) : cdC j' A' C P := ⟨by rw [h1]; exact h.1, fun z => by rw [h1, h2]; exact h.2 z⟩
theorem LN_height (hnb : n ≤ b.length) (hqn : q ≤ n) (hk : tkK b n q = 2) (hD : okD c) (hC : C.length ≤ q) : ∃ s' c' C', LNp n q c s' c' C' ∧ LNc b n 9 64 64 [some (vi 2), none, none, none] q c C s' c' C' ∧ LNf b n 9 188 0 [none, none] q c C s' c' C' := by
  have hlt := tkE_lt hqn (show tkK b n q ≠ 32 by omega)
  have hle := (tkE_le (b := b) hqn).2
  have h33 : tkK b n q ≠ 33 := by omega
  obtain ⟨hP1, hP5, hN3⟩ := hD.1
  have ok1 : okq n (.inl (tkE b n q)) := fun z e => by cases e; exact hle
  have ok2 := nu_ok (b := b) (lo := 0) (hi := (kP c : Int) - 1) (oth := -1) ok1
  have val : ∀ q', nuS b n 0 9 (-1) (nuS b n 0 ((kP c : Int) - 1) (-1) (.inl (tkE b n q))) = .inl q' → ∃ (q2 k v : Nat), nuO b n 0 ((kP c : Int) - 1) (-1) (.inl (tkE b n q)) = some (q2, (k : Int)) ∧ nuO b n 0 9 (-1) (nuS b n 0 ((kP c : Int) - 1) (-1) (.inl (tkE b n q))) = some (q', (v : Int)) ∧ k < kP c ∧ v ≤ 9 ∧ q < q' ∧ q' ≤ n := fun q' e => by
    obtain ⟨v, hv⟩ := nu_al e
    obtain ⟨q2, e2, v0, v1, v2, v3, v4, v5⟩ := nu_O ok2 hv
    obtain ⟨k, hk2⟩ := nu_al e2
    obtain ⟨q1, e1, k0, k1, k2, k3, k4, k5⟩ := nu_O ok1 hk2
    cases e1
    refine ⟨q2, k.toNat, v.toNat, by rw [hk2]; congr 2; omega, by rw [hv]; congr 2; omega, by omega, by omega, by omega, v5⟩
  by_cases hal : alR (nuS b n 0 9 (-1) (nuS b n 0 ((kP c : Int) - 1) (-1) (.inl (tkE b n q))))
  · obtain ⟨q', e'⟩ := hal
    obtain ⟨q2, k, v, hk2, hv2, k1, v1, q1, q1'⟩ := val q' e'
    refine ⟨.inl q', kH c (fup (kHgt c) k v), C, fun q'' e => ?_, fun h i j A hX hT hc hR hcd => ?_, fun h i A hX hT hr hR => ?_⟩
    · cases e
      obtain ⟨d1, d2, d3, d4, d5, d6, d7, d8, d9, d10⟩ := hD
      refine ⟨q1, q1', ⟨d1, fun x => ?_, d3, d4, d5, d6, d7, d8, d9, d10⟩, by omega, rfl⟩
      show fup (kHgt c) k v x ≤ 9
      unfold fup
      split
      · exact v1
      · exact d2 x
    · obtain ⟨r1, r2, r3, r4, r5, r6, r7⟩ := hR
      obtain ⟨i1, a1, a2, a3⟩ := C_st1 (h := h) (j := j) hX hT hnb hc
      obtain ⟨i2, w1, b1, b2, b3, b4, b5⟩ := C_nu (h := h) (j := j) (A := A) (s := .inl (tkE b n q)) (lo := 0) (hi := (kP c : Int) - 1) (oth := -1) hX hT hnb (by omega) (by omega) (by omega) a1
      obtain ⟨i3, w2, c1, c2, c3, c4, c5⟩ := C_nu (h := h) (j := j) (A := A) (lo := 0) (hi := 9) (oth := -1) hX hT hnb (by omega) (by omega) (by omega) b1
      have ew1 := b4 _ _ hk2
      have ew2 := c4 _ _ hv2
      subst ew1 ew2
      rw [e'] at c1
      refine ⟨i3, j, aup A 15 (fset (A 15) (k : Nat) (v : Nat)), c1, fun _ => ⟨r1, r2, r3, r4, r5, fun x hx => ⟨?_, by rw [aup_n (by omega)]; exact (r6 x hx).2⟩, fun p hp => by rw [aup_n (by omega), aup_n (by omega), aup_n (by omega)]; exact r7.1 p hp, r7.2⟩, cd_t (cd_fr hcd rfl (aup_n (by omega))) (fun _ => trivial), frI_t a2 (frI_t b2 c2), frA_u (by decide), fun d Q hd => ?_⟩
      · rw [aup_s]
        show _ = ((fup (kHgt c) k v x : Nat) : Int)
        unfold fup
        by_cases z : x = k
        · rw [if_pos z, z, fs_same]
        · rw [if_neg z, fs_ne (by omega)]; exact (r6 x hx).1
      · obtain ⟨d', rfl⟩ : ∃ d', d = d' + 1 := ⟨d - 1, by omega⟩
        simp (disch := omega) only [e_64_64, e_64_65, e_64_68, e_64_71, e_64_72, e_64_73, e_64_74, e_64_77, e_64_78, e_64_79, e_64_80, e_64_83, e_64_84, e_64_85, e_64_88, e_64_89, e_64_90, e_64_91, e_64_93, e_64_94, e_64_97, e_64_98, e_64_235, r1, a3, b5, c5, true_and, tkO_c, tkO_g0, tkO_k0, tkO_g1, tkO_k1, tkO_g2, tkO_k2, tkO_g3, tkO_k3, tkO_g4, tkO_k4, tkO_g5, tkO_k5, tkO_g6, tkO_k6, tkO_g7, tkO_k7, tkO_g8, tkO_k8, tkO_s1, tkO_s2, tkO_s3, tkO_s4, tkO_s5, tkO_s6, tkO_s7, tkO_s8, rdO_c, rdO_g0, rdO_k0, rdO_g1, rdO_k1, rdO_g2, rdO_k2, rdO_g3, rdO_k3, rdO_g4, rdO_k4, rdO_g5, rdO_k5, rdO_g6, rdO_k6, rdO_g7, rdO_k7, rdO_g8, rdO_k8, rdO_g9, rdO_k9, rdO_g10, rdO_k10, rdO_g11, rdO_k11, rdO_g12, rdO_k12, rdO_g13, rdO_k13, rdO_g14, rdO_k14, rdO_g15, rdO_k15, rdO_g16, rdO_k16, rdO_g17, rdO_k17, rdO_s2, rdO_s3, rdO_s4, rdO_s10, rdO_s11, rdO_s12, rdO_s13, rdO_s14, rdO_s15, rdO_s16, rdO_s17, rh_1, rh_2, rh_g11, rh_g12, rh_g13, rh_g14, rh_g15, rh_g16, rh_g17, rh_g18, rh_g19, rh_out, rh_u11, rh_u12, rh_u13, rh_u14, rh_u15, rh_u16, rh_u17, rh_u18, rh_u19, iup_s, iup_n, aup_s, aup_n, ne_eq, not_false_eq_true, sh_0, sh_1, sh_2, sh_3, sh_4, sh_5, sh_8, sh_15, sh_16, sh_24, Int.reducePow, Int.cast_ofNat_Int, w_of, wl_of, ltT, ltF, leT, leF, eqT, eqF, okF_0, okF_s, gF_0, gF_s, consC_o, sF_0, sF_s, clsO_o, inA_i, ldA_i, stA_i, inJ_l, ldJ_l, stJ_l, inR_r, ldR_r, stR_r, tgR_r, lenA_i, lenA_l, lenA_r, lenA_ex, nl_i, nl_o, nl_l, nl_n, wd_n, wd_i, wd_l, wd_o, fit_i, fit_l, fit_o, K_v, K_n, true_and, and_true, Nat.reduceAdd, Nat.reduceLeDiff, Nat.reduceEqDiff, Nat.reduceMul, Nat.reduceLT, reduceIte, true_or, or_true, cmp_lt, cmp_gt, cmp_eq, wb_0, b_01, cmp_lt', cmp_gt', cmp_eq', b_0, b_1, wb_1, Int.reduceSub, Int.reduceToNat, List.getD_cons_succ, List.getD_cons_zero, Int.reduceLE, Int.reduceLT, Int.reduceEq, Int.reduceNeg, Int.reduceAdd, Int.reduceMul, and_self, em_b, ne_eq, not_false_eq_true, not_true_eq_false]
        try rfl
    · obtain ⟨r0, r1, r2, r3, r4, r5, r6, r7, r8, r9, r10, r11, r12⟩ := hR
      obtain ⟨i1, a1, a2, a3⟩ := R_nx1 (h := h) (A := A) hX hT hnb hr
      obtain ⟨i2, w1, b1, b2, b4, b5⟩ := R_tk (h := h) (A := A) (lo := 0) (hi := (kP c : Int) - 1) hX hT hnb (by omega) (by omega) a1
      obtain ⟨i3, w2, c1, c2, c4, c5⟩ := R_tk (h := h) (A := A) (lo := 0) (hi := 9) hX hT hnb (by omega) (by omega) b1
      have ew1 := b4 _ _ hk2
      have ew2 := c4 _ _ hv2
      subst ew1 ew2
      rw [e'] at c1
      have c11 : i3 11 = 0 := c1.2.2.1
      have e9 : (9 : Int) + (k : Int) = ((9 + k : Nat) : Int) := by omega
      refine ⟨i3, aup A 75 (fset (A 75) ((9 + k : Nat) : Int) (v : Nat)), c1, fun _ => ⟨by rw [aup_s, fs_ne (by omega)]; exact r0, by rw [aup_s, fs_ne (by omega)]; exact r1, by rw [aup_s, fs_ne (by omega)]; exact r2, fun x hx => ⟨?_, by rw [aup_s, fs_ne (by omega)]; exact (r3 x hx).2⟩, fun p hp => by rw [aup_s, fs_ne (by omega), fs_ne (by omega), fs_ne (by omega)]; exact r4 p hp, by rw [aup_s, fs_ne (by omega)]; exact r5, by rw [aup_s, fs_ne (by omega)]; exact r6, by rw [aup_s, fs_ne (by omega)]; exact r7, by rw [aup_s, fs_ne (by omega)]; exact r8, by rw [aup_s, fs_ne (by omega)]; exact r9, r10, lwR_fr (by omega) (fun y hy => by rw [aup_s, fs_ne (by omega)]) r11, lwR_fr (by omega) (fun y hy => by rw [aup_s, fs_ne (by omega)]) r12⟩, frI_w (frI_t a2 (frI_t b2 c2)) (by decide), frA_u (by decide), fun d Q hd => ?_⟩
      · rw [aup_s]
        show _ = ((fup (kHgt c) k v x : Nat) : Int)
        unfold fup
        by_cases z : x = k
        · rw [if_pos z, z, e9, fs_same]
        · rw [if_neg z, fs_ne (by omega)]; exact (r3 x hx).1
      · obtain ⟨d', rfl⟩ : ∃ d', d = d' + 1 := ⟨d - 1, by omega⟩
        simp (disch := omega) only [e_188_0, e_188_1, e_188_4, e_188_5, e_188_6, e_188_7, e_188_10, e_188_11, e_188_12, e_188_13, e_188_14, e_188_17, e_188_18, e_188_19, e_188_20, e_188_22, e_188_25, e_188_26, e_188_27, e_188_30, e_188_33, e_188_34, e_188_37, e_188_39, e_188_40, e_188_41, e_188_42, e_188_43, r1, a3, b5, c5, c11, e9, true_and, mdO_c, mdO_g0, mdO_k0, mdO_g1, mdO_k1, mdO_g2, mdO_k2, mdO_g3, mdO_k3, mdO_g4, mdO_k4, mdO_g5, mdO_k5, mdO_g6, mdO_k6, mdO_g7, mdO_k7, mdO_g8, mdO_k8, mdO_g9, mdO_k9, mdO_g10, mdO_k10, mdO_g11, mdO_k11, mdO_g12, mdO_k12, mdO_g13, mdO_k13, mdO_g14, mdO_k14, mdO_g15, mdO_k15, mdO_g16, mdO_k16, mdO_g17, mdO_k17, mdO_g18, mdO_k18, mdO_g19, mdO_k19, mdO_g20, mdO_k20, mdO_g21, mdO_k21, mdO_g22, mdO_k22, mdO_g23, mdO_k23, mdO_g24, mdO_k24, mdO_g25, mdO_k25, mdO_g26, mdO_k26, mdO_g27, mdO_k27, mdO_g28, mdO_k28, mdO_g29, mdO_k29, mdO_g30, mdO_k30, mdO_g31, mdO_k31, mdO_g32, mdO_k32, mdO_g33, mdO_k33, mdO_g34, mdO_k34, mdO_g35, mdO_k35, mdO_s0, mdO_s5, mdO_s6, mdO_s7, mdO_s8, mdO_s9, mdO_s10, mdO_s11, mdO_s12, mdO_s13, mdO_s14, mdO_s15, mdO_s19, mdO_s20, mdO_s25, mdO_s26, mdO_s31, mdO_s32, md_1, md_2, md_g71, md_g72, md_g73, md_g74, md_g75, md_g76, md_g77, md_g78, md_g79, md_g80, md_g81, md_g82, md_g83, md_g84, md_g85, md_g86, md_g87, md_g88, md_g89, md_out, md_u71, md_u72, md_u73, md_u74, md_u75, md_u76, md_u77, md_u78, md_u79, md_u80, md_u81, md_u82, md_u83, md_u84, md_u85, md_u86, md_u87, md_u88, md_u89, md_uo, iup_s, iup_n, aup_s, aup_n, ne_eq, not_false_eq_true, sh_0, sh_1, sh_2, sh_3, sh_4, sh_5, sh_8, sh_15, sh_16, sh_24, Int.reducePow, Int.cast_ofNat_Int, w_of, wl_of, ltT, ltF, leT, leF, eqT, eqF, okF_0, okF_s, gF_0, gF_s, consC_o, sF_0, sF_s, clsO_o, inA_i, ldA_i, stA_i, inJ_l, ldJ_l, stJ_l, inR_r, ldR_r, stR_r, tgR_r, lenA_i, lenA_l, lenA_r, lenA_ex, nl_i, nl_o, nl_l, nl_n, wd_n, wd_i, wd_l, wd_o, fit_i, fit_l, fit_o, K_v, K_n, true_and, and_true, Nat.reduceAdd, Nat.reduceLeDiff, Nat.reduceEqDiff, Nat.reduceMul, Nat.reduceLT, reduceIte, true_or, or_true, cmp_lt, cmp_gt, cmp_eq, wb_0, b_01, cmp_lt', cmp_gt', cmp_eq', b_0, b_1, wb_1, Int.reduceSub, Int.reduceToNat, List.getD_cons_succ, List.getD_cons_zero, Int.reduceLE, Int.reduceLT, Int.reduceEq, Int.reduceNeg, Int.reduceAdd, Int.reduceMul, and_self, em_b, ne_eq, not_false_eq_true, not_true_eq_false]
        try rfl
  · refine ⟨nuS b n 0 9 (-1) (nuS b n 0 ((kP c : Int) - 1) (-1) (.inl (tkE b n q))), c, C, fun q'' e => absurd ⟨q'', e⟩ hal, fun h i j A hX hT hc hR hcd => ?_, fun h i A hX hT hr hR => ?_⟩
    · obtain ⟨r1, r2, r3, r4, r5, r6, r7⟩ := hR
      obtain ⟨i1, a1, a2, a3⟩ := C_st1 (h := h) (j := j) hX hT hnb hc
      obtain ⟨i2, w1, b1, b2, b3, b4, b5⟩ := C_nu (h := h) (j := j) (A := A) (s := .inl (tkE b n q)) (lo := 0) (hi := (kP c : Int) - 1) (oth := -1) hX hT hnb (by omega) (by omega) (by omega) a1
      obtain ⟨i3, w2, c1, c2, c3, c4, c5⟩ := C_nu (h := h) (j := j) (A := A) (lo := 0) (hi := 9) (oth := -1) hX hT hnb (by omega) (by omega) (by omega) b1
      have hw1 : 0 ≤ w1 ∧ w1 < 5 := by
        rcases b3 with z | ⟨z, hz⟩
        · omega
        · obtain ⟨_, _, _, z1, z2, _⟩ := nu_O ok1 hz
          omega
      obtain ⟨y1, y2⟩ := hw1
      refine ⟨i3, j, aup A 15 (fset (A 15) w1 w2), c1, fun z => absurd (alC_R z) hal, cd_t (cd_fr hcd rfl (aup_n (by omega))) (fun _ => trivial), frI_t a2 (frI_t b2 c2), frA_u (by decide), fun d Q hd => ?_⟩
      obtain ⟨d', rfl⟩ : ∃ d', d = d' + 1 := ⟨d - 1, by omega⟩
      simp (disch := omega) only [e_64_64, e_64_65, e_64_68, e_64_71, e_64_72, e_64_73, e_64_74, e_64_77, e_64_78, e_64_79, e_64_80, e_64_83, e_64_84, e_64_85, e_64_88, e_64_89, e_64_90, e_64_91, e_64_93, e_64_94, e_64_97, e_64_98, e_64_235, r1, a3, b5, c5, true_and, tkO_c, tkO_g0, tkO_k0, tkO_g1, tkO_k1, tkO_g2, tkO_k2, tkO_g3, tkO_k3, tkO_g4, tkO_k4, tkO_g5, tkO_k5, tkO_g6, tkO_k6, tkO_g7, tkO_k7, tkO_g8, tkO_k8, tkO_s1, tkO_s2, tkO_s3, tkO_s4, tkO_s5, tkO_s6, tkO_s7, tkO_s8, rdO_c, rdO_g0, rdO_k0, rdO_g1, rdO_k1, rdO_g2, rdO_k2, rdO_g3, rdO_k3, rdO_g4, rdO_k4, rdO_g5, rdO_k5, rdO_g6, rdO_k6, rdO_g7, rdO_k7, rdO_g8, rdO_k8, rdO_g9, rdO_k9, rdO_g10, rdO_k10, rdO_g11, rdO_k11, rdO_g12, rdO_k12, rdO_g13, rdO_k13, rdO_g14, rdO_k14, rdO_g15, rdO_k15, rdO_g16, rdO_k16, rdO_g17, rdO_k17, rdO_s2, rdO_s3, rdO_s4, rdO_s10, rdO_s11, rdO_s12, rdO_s13, rdO_s14, rdO_s15, rdO_s16, rdO_s17, rh_1, rh_2, rh_g11, rh_g12, rh_g13, rh_g14, rh_g15, rh_g16, rh_g17, rh_g18, rh_g19, rh_out, rh_u11, rh_u12, rh_u13, rh_u14, rh_u15, rh_u16, rh_u17, rh_u18, rh_u19, iup_s, iup_n, aup_s, aup_n, ne_eq, not_false_eq_true, sh_0, sh_1, sh_2, sh_3, sh_4, sh_5, sh_8, sh_15, sh_16, sh_24, Int.reducePow, Int.cast_ofNat_Int, w_of, wl_of, ltT, ltF, leT, leF, eqT, eqF, okF_0, okF_s, gF_0, gF_s, consC_o, sF_0, sF_s, clsO_o, inA_i, ldA_i, stA_i, inJ_l, ldJ_l, stJ_l, inR_r, ldR_r, stR_r, tgR_r, lenA_i, lenA_l, lenA_r, lenA_ex, nl_i, nl_o, nl_l, nl_n, wd_n, wd_i, wd_l, wd_o, fit_i, fit_l, fit_o, K_v, K_n, true_and, and_true, Nat.reduceAdd, Nat.reduceLeDiff, Nat.reduceEqDiff, Nat.reduceMul, Nat.reduceLT, reduceIte, true_or, or_true, cmp_lt, cmp_gt, cmp_eq, wb_0, b_01, cmp_lt', cmp_gt', cmp_eq', b_0, b_1, wb_1, Int.reduceSub, Int.reduceToNat, List.getD_cons_succ, List.getD_cons_zero, Int.reduceLE, Int.reduceLT, Int.reduceEq, Int.reduceNeg, Int.reduceAdd, Int.reduceMul, and_self, em_b, ne_eq, not_false_eq_true, not_true_eq_false]
      try rfl
    · obtain ⟨r0, r1, r2, r3, r4, r5, r6, r7, r8, r9, r10, r11, r12⟩ := hR
      obtain ⟨i1, a1, a2, a3⟩ := R_nx1 (h := h) (A := A) hX hT hnb hr
      obtain ⟨i2, w1, b1, b2, b4, b5⟩ := R_tk (h := h) (A := A) (lo := 0) (hi := (kP c : Int) - 1) hX hT hnb (by omega) (by omega) a1
      obtain ⟨i3, w2, c1, c2, c4, c5⟩ := R_tk (h := h) (A := A) (lo := 0) (hi := 9) hX hT hnb (by omega) (by omega) b1
      obtain ⟨c11, c11'⟩ := (rf_wr c1).2 hal
      refine ⟨i3, A, c1, fun z => absurd z hal, frI_w (frI_t a2 (frI_t b2 c2)) (by decide), frA_r, fun d Q hd => ?_⟩
      obtain ⟨d', rfl⟩ : ∃ d', d = d' + 1 := ⟨d - 1, by omega⟩
      simp (disch := omega) only [e_188_0, e_188_1, e_188_4, e_188_5, e_188_6, e_188_7, e_188_10, e_188_11, e_188_12, e_188_13, e_188_14, e_188_17, e_188_18, e_188_19, e_188_20, e_188_22, e_188_25, e_188_26, e_188_27, e_188_30, e_188_33, e_188_34, e_188_37, e_188_39, e_188_40, e_188_41, e_188_42, e_188_43, r1, a3, b5, c5, true_and, mdO_c, mdO_g0, mdO_k0, mdO_g1, mdO_k1, mdO_g2, mdO_k2, mdO_g3, mdO_k3, mdO_g4, mdO_k4, mdO_g5, mdO_k5, mdO_g6, mdO_k6, mdO_g7, mdO_k7, mdO_g8, mdO_k8, mdO_g9, mdO_k9, mdO_g10, mdO_k10, mdO_g11, mdO_k11, mdO_g12, mdO_k12, mdO_g13, mdO_k13, mdO_g14, mdO_k14, mdO_g15, mdO_k15, mdO_g16, mdO_k16, mdO_g17, mdO_k17, mdO_g18, mdO_k18, mdO_g19, mdO_k19, mdO_g20, mdO_k20, mdO_g21, mdO_k21, mdO_g22, mdO_k22, mdO_g23, mdO_k23, mdO_g24, mdO_k24, mdO_g25, mdO_k25, mdO_g26, mdO_k26, mdO_g27, mdO_k27, mdO_g28, mdO_k28, mdO_g29, mdO_k29, mdO_g30, mdO_k30, mdO_g31, mdO_k31, mdO_g32, mdO_k32, mdO_g33, mdO_k33, mdO_g34, mdO_k34, mdO_g35, mdO_k35, mdO_s0, mdO_s5, mdO_s6, mdO_s7, mdO_s8, mdO_s9, mdO_s10, mdO_s11, mdO_s12, mdO_s13, mdO_s14, mdO_s15, mdO_s19, mdO_s20, mdO_s25, mdO_s26, mdO_s31, mdO_s32, md_1, md_2, md_g71, md_g72, md_g73, md_g74, md_g75, md_g76, md_g77, md_g78, md_g79, md_g80, md_g81, md_g82, md_g83, md_g84, md_g85, md_g86, md_g87, md_g88, md_g89, md_out, md_u71, md_u72, md_u73, md_u74, md_u75, md_u76, md_u77, md_u78, md_u79, md_u80, md_u81, md_u82, md_u83, md_u84, md_u85, md_u86, md_u87, md_u88, md_u89, md_uo, iup_s, iup_n, aup_s, aup_n, ne_eq, not_false_eq_true, sh_0, sh_1, sh_2, sh_3, sh_4, sh_5, sh_8, sh_15, sh_16, sh_24, Int.reducePow, Int.cast_ofNat_Int, w_of, wl_of, ltT, ltF, leT, leF, eqT, eqF, okF_0, okF_s, gF_0, gF_s, consC_o, sF_0, sF_s, clsO_o, inA_i, ldA_i, stA_i, inJ_l, ldJ_l, stJ_l, inR_r, ldR_r, stR_r, tgR_r, lenA_i, lenA_l, lenA_r, lenA_ex, nl_i, nl_o, nl_l, nl_n, wd_n, wd_i, wd_l, wd_o, fit_i, fit_l, fit_o, K_v, K_n, true_and, and_true, Nat.reduceAdd, Nat.reduceLeDiff, Nat.reduceEqDiff, Nat.reduceMul, Nat.reduceLT, reduceIte, true_or, or_true, cmp_lt, cmp_gt, cmp_eq, wb_0, b_01, cmp_lt', cmp_gt', cmp_eq', b_0, b_1, wb_1, Int.reduceSub, Int.reduceToNat, List.getD_cons_succ, List.getD_cons_zero, Int.reduceLE, Int.reduceLT, Int.reduceEq, Int.reduceNeg, Int.reduceAdd, Int.reduceMul, and_self, em_b, ne_eq, not_false_eq_true, not_true_eq_false]
      try rfl
end ln

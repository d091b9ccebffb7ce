/-! HOURS of the class: what is kept of the laws' answers -/
noncomputable def tireI (c : KC) (sky p str bears k goes : Nat) : Int := match kTir c with
  | none => (str : Int) + (if bears = 1 then -1 else if goes = 1 then 0 else 1)
  | some o => lawV false o (fx7 p (kAge c p) str bears sky (kHgt c k) goes)
noncomputable def tireV (c : KC) (sky p str bears k goes : Nat) : Nat := (max 0 (min 3 (tireI c sky p str bears k goes))).toNat
theorem tireV_lt {c : KC} {sky p str bears k goes : Nat} : tireV c sky p str bears k goes < 4 := by unfold tireV; omega
theorem tireV_i {c : KC} {sky p str bears k goes : Nat} : (tireV c sky p str bears k goes : Int) = max 0 (min 3 (tireI c sky p str bears k goes)) := by unfold tireV; omega
noncomputable def mayV (c : KC) (sky p str bears fr to : Nat) : Bool := match kMay c with
  | none => decide (0 < str)
  | some o => decide (lawV true o (fx7 p (kAge c p) str bears sky (kHgt c to) (kHgt c fr)) = 1)
noncomputable def tireAt (c : KC) (x : Nat) : Nat := tireV c (x / 240) (x / 80 % 3) (x / 20 % 4) (x / 10 % 2) (x / 2 % 5) (x % 2)
noncomputable def mayAt (c : KC) (x : Nat) : Bool := mayV c (x / 600) (x / 200 % 3) (x / 50 % 4) (x / 25 % 2) (x / 5 % 5) (x % 5)
def hoOK (c : KC) (sky e : Nat) (i : Nat → Int) (A : Nat → Int → Int) : Prop := i 1 = sky ∧ i 2 = e ∧ 1 ≤ e ∧ e ≤ 1000000 ∧ sky < 10 ∧
  (∀ x : Nat, x < 2400 → ∃ v : Nat, A 28 x = v ∧ v < 4 * e + 4 ∧ (v / 4 = e → v % 4 = tireAt c x)) ∧
  (∀ x : Nat, x < 6000 → ∃ v : Nat, A 29 x = v ∧ v < 2 * e + 2 ∧ (v / 2 = e → v % 2 = if mayAt c x then 1 else 0))
theorem fx7_b {c : KC} (hO : okC c) {sky p str bears k : Nat} {last : Int} (h1 : sky < 10) (h2 : p < 3) (h3 : str < 4) (h4 : bears < 2) (h6 : 0 ≤ last ∧ last < 10) : ∀ j, j < 7 → bnd (fx7 p (kAge c p) str bears sky (kHgt c k) last j) := by
  intro j hj
  have ha := hO.2.2.1 p
  have hh := hO.2.1 k
  unfold bnd
  match j, hj with
  | 0, _ => simp only [fx7]; omega
  | 1, _ => simp only [fx7]; omega
  | 2, _ => simp only [fx7]; omega
  | 3, _ => simp only [fx7]; omega
  | 4, _ => simp only [fx7]; omega
  | 5, _ => simp only [fx7]; omega
  | 6, _ => simp only [fx7]; omega
theorem fs7 {f : Int → Int} {x0 x1 x2 x3 x4 x5 x6 : Int} : ∀ k : Nat, k < 7 → (fset (fset (fset (fset (fset (fset (fset f 0 x0) 1 x1) 2 x2) 3 x3) 4 x4) 5 x5) 6 x6) (k : Int) = fx7 x0 x1 x2 x3 x4 x5 x6 k := by
  intro k hk
  match k, hk with
  | 0, _ => rfl
  | 1, _ => rfl
  | 2, _ => rfl
  | 3, _ => rfl
  | 4, _ => rfl
  | 5, _ => rfl
  | 6, _ => rfl
theorem clamp3 {v : Int} (h : bnd v) : (if w 0 < w (if w v < w 3 then v else 3) then (if w v < w 3 then v else 3) else 0) = max 0 (min 3 v) := by
  unfold bnd at h
  rw [w_of (x := v) (by omega) (by omega), w_of (x := 3) (by omega) (by omega), w_of (x := 0) (by omega) (by omega)]
  by_cases a : v < 3
  · rw [if_pos a, w_of (by omega) (by omega)]
    split <;> omega
  · rw [if_neg a, w_of (by omega) (by omega)]
    split <;> omega
theorem hoOK_t {c : KC} {sky e : Nat} {i : Nat → Int} {A : Nat → Int → Int} (h : hoOK c sky e i A) {x : Nat} (hx : x < 2400) : hoOK c sky e i (aup A 28 (fset (A 28) x ((4 * e + tireAt c x : Nat) : Int))) := by
  obtain ⟨h1, h2, h3, h4, h5, h6, h7⟩ := h
  refine ⟨h1, h2, h3, h4, h5, ?_, ?_⟩
  · intro y hy
    rw [aup_s]
    by_cases q : y = x
    · subst q
      have := tireV_lt (c := c) (sky := y / 240) (p := y / 80 % 3) (str := y / 20 % 4) (bears := y / 10 % 2) (k := y / 2 % 5) (goes := y % 2)
      have t : tireAt c y < 4 := this
      exact ⟨_, fs_same, by omega, fun _ => by omega⟩
    · rw [fs_ne (by omega)]
      exact h6 y hy
  · intro y hy
    rw [aup_n (by omega)]
    exact h7 y hy
theorem hoOK_m {c : KC} {sky e : Nat} {i : Nat → Int} {A : Nat → Int → Int} (h : hoOK c sky e i A) {x : Nat} (hx : x < 6000) : hoOK c sky e i (aup A 29 (fset (A 29) x ((2 * e + (if mayAt c x then 1 else 0) : Nat) : Int))) := by
  obtain ⟨h1, h2, h3, h4, h5, h6, h7⟩ := h
  refine ⟨h1, h2, h3, h4, h5, ?_, ?_⟩
  · intro y hy
    rw [aup_n (by omega)]
    exact h6 y hy
  · intro y hy
    rw [aup_s]
    by_cases q : y = x
    · subst q
      by_cases m : mayAt c y = true
      · exact ⟨_, fs_same, by simp only [m, if_true]; omega, fun _ => by simp only [m, if_true]; omega⟩
      · exact ⟨_, fs_same, by simp [m], fun _ => by simp [m]⟩
    · rw [fs_ne (by omega)]
      exact h7 y hy
theorem hoOK_x {c : KC} {sky e : Nat} {i : Nat → Int} {A B : Nat → Int → Int} (h : hoOK c sky e i A) (h8 : B 28 = A 28) (h9 : B 29 = A 29) : hoOK c sky e i B := by
  obtain ⟨h1, h2, h3, h4, h5, h6, h7⟩ := h
  exact ⟨h1, h2, h3, h4, h5, by rw [h8]; exact h6, by rw [h9]; exact h7⟩
theorem ior_e2 {e v : Nat} (he : e ≤ 1000000) (hv : v < 4) : ior ((e : Int) * 4) (v : Int) = ((4 * e + v : Nat) : Int) := by
  have := ior_add (k := 2) (a := v) (b := e) (by omega) (by omega)
  have e2 : ((e * 2 ^ 2 : Nat) : Int) = (e : Int) * 4 := by omega
  rw [← e2, this]
  congr 1
  omega
theorem ior_e1 {e v : Nat} (he : e ≤ 1000000) (hv : v < 2) : ior ((e : Int) * 2) (v : Int) = ((2 * e + v : Nat) : Int) := by
  have := ior_add (k := 1) (a := v) (b := e) (by omega) (by omega)
  have e2 : ((e * 2 ^ 1 : Nat) : Int) = (e : Int) * 2 := by omega
  rw [← e2, this]
  congr 1
  omega
theorem h_tire {ca : Nat} {h : PH} {c : KC} {sky e p str bears k goes : Nat} {i : Nat → Int} {A : Nat → Int → Int} (hO : okC c) (hca : outH ca) (hC : CtyAt h ca c) (hI : hoOK c sky e i A) (hpn : p < kN c) (hs : str < 4) (hb : bears < 2) (hk : k < 5) (hg : goes < 2) :
    ∃ B, hoOK c sky e i B ∧ B 32 = A 32 ∧ B 33 = A 33 ∧ ∀ d Q, WP (d + 5) 43 0 [some (vr 27), some (vi p), some (vi str), some (vi bears), some (vi k), some (vi goes), none, none, none] [] (hoH h ca i A) Q = Q (some (vi (tireV c sky p str bears k goes))) (hoH h ca i B) := by
  have hK := hO.1
  have hN := hK.2.2
  have hC' := hC
  have hI' := hI
  obtain ⟨i1, i2, e1, e2, s1, m1, m2⟩ := hI'
  have hx : ((((sky * 3 + p) * 4 + str) * 2 + bears) * 5 + k) * 2 + goes < 2400 := by omega
  obtain ⟨v, hv, hv1, hv2⟩ := m1 _ hx
  have hat : tireAt c (((((sky * 3 + p) * 4 + str) * 2 + bears) * 5 + k) * 2 + goes) = tireV c sky p str bears k goes := by
    unfold tireAt
    congr 1 <;> omega
  rw [hat] at hv2
  have ex : ((((((sky : Int) * 3 + (p : Int)) * 4 + (str : Int)) * 2 + (bears : Int)) * 5 + (k : Int)) * 2 + (goes : Int)) = ((((((sky * 3 + p) * 4 + str) * 2 + bears) * 5 + k) * 2 + goes : Nat) : Int) := by omega
  generalize hX : ((((sky * 3 + p) * 4 + str) * 2 + bears) * 5 + k) * 2 + goes = X at *
  have sh2 : w (v : Int) / 2 ^ sh 2 = ((v / 4 : Nat) : Int) := shr_nat (a := v) (k := 2) (by omega) (by omega)
  have hlt := tireV_lt (c := c) (sky := sky) (p := p) (str := str) (bears := bears) (k := k) (goes := goes)
  have o0 : ∀ i A, hp (hoH h ca i A) ca = hp h ca := fun i A => ho_out (by unfold outH at hca; omega)
  have x1 : (0 : Int) ≤ (X : Int) := by omega
  have x2 : (X : Int) < ((2400 : Nat) : Int) := by omega
  by_cases hit : v / 4 = e
  · refine ⟨A, hI, rfl, rfl, fun d Q => ?_⟩
    have hv3 := hv2 hit
    have e3 : (v : Int) % 4 = (tireV c sky p str bears k goes : Int) := by omega
    have hit' : (v : Int) / 4 = (e : Int) := by omega
    simp (disch := omega) only [e_43_0, e_43_1, e_43_4, e_43_5, e_43_6, e_43_7, e_43_8, e_43_9, e_43_10, e_43_11, e_43_12, e_43_13, e_43_14, e_43_15, e_43_16, e_43_17, e_43_18, e_43_20, e_43_21, e_43_22, e_43_23, e_43_25, e_43_26, e_43_28, e_43_29, e_43_32, e_43_34, e_43_35, e_43_37, e_43_39, e_43_40, e_43_41, e_43_42, e_43_45, e_43_48, e_43_50, e_43_51, e_43_52, i1, i2, ex, hv, iand_3, e3, hoO_c, hoO_g0, hoO_k0, hoO_g1, hoO_k1, hoO_g2, hoO_k2, hoO_g3, hoO_k3, hoO_g4, hoO_k4, hoO_g5, hoO_k5, hoO_g6, hoO_k6, hoO_g7, hoO_k7, hoO_g8, hoO_k8, hoO_g9, hoO_k9, hoO_s0, hoO_s1, hoO_s2, hoO_s9, ho_1, ho_2, ho_g27, ho_g28, ho_g29, ho_g30, ho_g31, ho_g32, ho_g33, ho_out, ho_u27, ho_u28, ho_u29, ho_u30, ho_u31, ho_u32, ho_u33, ho_uo, iup_s, iup_n, aup_s, aup_n, ne_eq, not_false_eq_true, sh_0, sh_1, sh_2, sh_3, sh_4, sh_5, sh_8, sh_15, sh_16, sh_24, Int.reducePow, Int.cast_ofNat_Int, w_of, wl_of, ltT, ltF, leT, leF, eqT, eqF, okF_0, okF_s, gF_0, gF_s, consC_o, sF_0, sF_s, clsO_o, inA_i, ldA_i, stA_i, inJ_l, ldJ_l, stJ_l, inR_r, ldR_r, stR_r, tgR_r, lenA_i, lenA_l, lenA_r, lenA_ex, nl_i, nl_o, nl_l, nl_n, wd_n, wd_i, wd_l, wd_o, fit_i, fit_l, fit_o, K_v, K_n, true_and, and_true, Nat.reduceAdd, Nat.reduceLeDiff, Nat.reduceEqDiff, Nat.reduceMul, Nat.reduceLT, reduceIte, true_or, or_true, cmp_lt, cmp_gt, cmp_eq, wb_0, b_01, cmp_lt', cmp_gt', cmp_eq', b_0, b_1, wb_1, Int.reduceSub, Int.reduceToNat, List.getD_cons_succ, List.getD_cons_zero, Int.reduceLE, Int.reduceLT, Int.reduceEq, Int.reduceNeg, Int.reduceAdd, Int.reduceMul, and_self]
  · have ne : ¬ ((v : Int) / 4 = (e : Int)) := by omega
    obtain ⟨tf, tt, mf, mt, n, fh, fw, fa, fc, fg, fp, hA, h1, h2, h3, h4, h5, h6, hh, hw, ha, hwg, hpl, hlt1, hlm, hn⟩ := hC
    cases hT : kTir c with
    | none =>
      rw [hT] at hlt1
      have htf : tf = -1 := hlt1
      subst htf
      have hval : (tireV c sky p str bears k goes : Int) = max 0 (min 3 ((str : Int) + (if bears = 1 then -1 else if goes = 1 then 0 else 1))) := by rw [tireV_i]; unfold tireI; rw [hT]
      refine ⟨_, hoOK_t hI hx, ?_, ?_, fun d Q => ?_⟩
      · rw [aup_n (by omega)]
      · rw [aup_n (by omega)]
      · rw [hat]
        have cl : ∀ z : Int, z = (str : Int) + (if bears = 1 then -1 else if goes = 1 then 0 else 1) → (if w 0 < w (if w z < w 3 then z else 3) then (if w z < w 3 then z else 3) else 0) = (tireV c sky p str bears k goes : Int) := fun z hz => by
          rw [hval, ← hz]
          exact clamp3 (by unfold bnd; rw [hz]; split <;> (try split) <;> omega)
        rcases (by omega : bears = 0 ∨ bears = 1) with q | q <;> rcases (by omega : goes = 0 ∨ goes = 1) with q' | q'
        · have cl' := cl ((str : Int) + 1) (by rw [if_neg (by omega), if_neg (by omega)])
          simp (disch := omega) only [e_43_0, e_43_1, e_43_4, e_43_5, e_43_6, e_43_7, e_43_8, e_43_9, e_43_10, e_43_11, e_43_12, e_43_13, e_43_14, e_43_15, e_43_16, e_43_17, e_43_18, e_43_20, e_43_21, e_43_22, e_43_23, e_43_25, e_43_26, e_43_28, e_43_29, e_43_32, e_43_34, e_43_35, e_43_37, e_43_39, e_43_40, e_43_41, e_43_42, e_43_45, e_43_48, e_43_50, e_43_51, e_43_52, e_43_53, e_43_54, e_43_55, e_43_56, e_43_59, e_43_60, e_43_63, e_43_65, e_43_66, e_43_69, e_43_70, e_43_73, e_43_74, e_43_75, e_43_77, e_43_78, e_43_81, e_43_84, e_43_85, e_43_88, e_43_89, e_43_90, e_43_91, e_43_92, e_43_94, e_43_96, e_43_99, e_43_100, e_43_101, e_43_104, e_43_107, e_43_108, e_43_111, e_43_114, e_43_117, e_43_119, e_43_120, e_43_121, e_43_123, e_43_126, e_43_129, e_43_131, e_43_132, e_43_135, e_43_137, e_43_138, e_43_141, e_43_142, e_43_143, e_43_145, e_43_146, e_43_147, e_43_149, i1, i2, ex, hv, hA, m_min, m_max, cl', ior_e2 e2 hlt, sh_2, Int.reducePow, w_of (x := (bears : Int)), w_of (x := (goes : Int)), w_of (x := (1 : Int)), w_of (x := (-1 : Int)), w_of (x := (v : Int)), w_of (x := ((v : Int) / 4)), w_of (x := (e : Int)), w_of (x := (X : Int)), ne, x1, x2, o0, eqT, eqF, hoO_c, hoO_g0, hoO_k0, hoO_g1, hoO_k1, hoO_g2, hoO_k2, hoO_g3, hoO_k3, hoO_g4, hoO_k4, hoO_g5, hoO_k5, hoO_g6, hoO_k6, hoO_g7, hoO_k7, hoO_g8, hoO_k8, hoO_g9, hoO_k9, hoO_s0, hoO_s1, hoO_s2, hoO_s9, ho_1, ho_2, ho_g27, ho_g28, ho_g29, ho_g30, ho_g31, ho_g32, ho_g33, ho_out, ho_u27, ho_u28, ho_u29, ho_u30, ho_u31, ho_u32, ho_u33, ho_uo, iup_s, iup_n, aup_s, aup_n, ne_eq, not_false_eq_true, okF_0, okF_s, gF_0, gF_s, consC_o, sF_0, sF_s, clsO_o, inA_i, ldA_i, stA_i, inJ_l, ldJ_l, stJ_l, inR_r, ldR_r, stR_r, tgR_r, lenA_i, lenA_l, lenA_r, lenA_ex, nl_i, nl_o, nl_l, nl_n, wd_n, wd_i, wd_l, wd_o, fit_i, fit_l, fit_o, K_v, K_n, true_and, and_true, Nat.reduceAdd, Nat.reduceLeDiff, Nat.reduceEqDiff, Nat.reduceMul, Nat.reduceLT, reduceIte, true_or, or_true, cmp_lt, cmp_gt, cmp_eq, wb_0, b_01, cmp_lt', cmp_gt', cmp_eq', b_0, b_1, wb_1, Int.reduceSub, Int.reduceToNat, List.getD_cons_succ, List.getD_cons_zero, Int.reduceLE, Int.reduceLT, Int.reduceEq, Int.reduceNeg, Int.reduceAdd, Int.reduceMul, and_self]
        · have cl' := cl ((str : Int) + 0) (by rw [if_neg (by omega), if_pos (by omega)])
          simp (disch := omega) only [e_43_0, e_43_1, e_43_4, e_43_5, e_43_6, e_43_7, e_43_8, e_43_9, e_43_10, e_43_11, e_43_12, e_43_13, e_43_14, e_43_15, e_43_16, e_43_17, e_43_18, e_43_20, e_43_21, e_43_22, e_43_23, e_43_25, e_43_26, e_43_28, e_43_29, e_43_32, e_43_34, e_43_35, e_43_37, e_43_39, e_43_40, e_43_41, e_43_42, e_43_45, e_43_48, e_43_50, e_43_51, e_43_52, e_43_53, e_43_54, e_43_55, e_43_56, e_43_59, e_43_60, e_43_63, e_43_65, e_43_66, e_43_69, e_43_70, e_43_73, e_43_74, e_43_75, e_43_77, e_43_78, e_43_81, e_43_84, e_43_85, e_43_88, e_43_89, e_43_90, e_43_91, e_43_92, e_43_94, e_43_96, e_43_99, e_43_100, e_43_101, e_43_104, e_43_107, e_43_108, e_43_111, e_43_114, e_43_117, e_43_119, e_43_120, e_43_121, e_43_123, e_43_126, e_43_129, e_43_131, e_43_132, e_43_135, e_43_137, e_43_138, e_43_141, e_43_142, e_43_143, e_43_145, e_43_146, e_43_147, e_43_149, i1, i2, ex, hv, hA, m_min, m_max, cl', ior_e2 e2 hlt, sh_2, Int.reducePow, w_of (x := (bears : Int)), w_of (x := (goes : Int)), w_of (x := (1 : Int)), w_of (x := (-1 : Int)), w_of (x := (v : Int)), w_of (x := ((v : Int) / 4)), w_of (x := (e : Int)), w_of (x := (X : Int)), ne, x1, x2, o0, eqT, eqF, hoO_c, hoO_g0, hoO_k0, hoO_g1, hoO_k1, hoO_g2, hoO_k2, hoO_g3, hoO_k3, hoO_g4, hoO_k4, hoO_g5, hoO_k5, hoO_g6, hoO_k6, hoO_g7, hoO_k7, hoO_g8, hoO_k8, hoO_g9, hoO_k9, hoO_s0, hoO_s1, hoO_s2, hoO_s9, ho_1, ho_2, ho_g27, ho_g28, ho_g29, ho_g30, ho_g31, ho_g32, ho_g33, ho_out, ho_u27, ho_u28, ho_u29, ho_u30, ho_u31, ho_u32, ho_u33, ho_uo, iup_s, iup_n, aup_s, aup_n, ne_eq, not_false_eq_true, okF_0, okF_s, gF_0, gF_s, consC_o, sF_0, sF_s, clsO_o, inA_i, ldA_i, stA_i, inJ_l, ldJ_l, stJ_l, inR_r, ldR_r, stR_r, tgR_r, lenA_i, lenA_l, lenA_r, lenA_ex, nl_i, nl_o, nl_l, nl_n, wd_n, wd_i, wd_l, wd_o, fit_i, fit_l, fit_o, K_v, K_n, true_and, and_true, Nat.reduceAdd, Nat.reduceLeDiff, Nat.reduceEqDiff, Nat.reduceMul, Nat.reduceLT, reduceIte, true_or, or_true, cmp_lt, cmp_gt, cmp_eq, wb_0, b_01, cmp_lt', cmp_gt', cmp_eq', b_0, b_1, wb_1, Int.reduceSub, Int.reduceToNat, List.getD_cons_succ, List.getD_cons_zero, Int.reduceLE, Int.reduceLT, Int.reduceEq, Int.reduceNeg, Int.reduceAdd, Int.reduceMul, and_self]
        · have cl' := cl ((str : Int) + -1) (by rw [if_pos (by omega)])
          simp (disch := omega) only [e_43_0, e_43_1, e_43_4, e_43_5, e_43_6, e_43_7, e_43_8, e_43_9, e_43_10, e_43_11, e_43_12, e_43_13, e_43_14, e_43_15, e_43_16, e_43_17, e_43_18, e_43_20, e_43_21, e_43_22, e_43_23, e_43_25, e_43_26, e_43_28, e_43_29, e_43_32, e_43_34, e_43_35, e_43_37, e_43_39, e_43_40, e_43_41, e_43_42, e_43_45, e_43_48, e_43_50, e_43_51, e_43_52, e_43_53, e_43_54, e_43_55, e_43_56, e_43_59, e_43_60, e_43_63, e_43_65, e_43_66, e_43_69, e_43_70, e_43_73, e_43_74, e_43_75, e_43_77, e_43_78, e_43_81, e_43_84, e_43_85, e_43_88, e_43_89, e_43_90, e_43_91, e_43_92, e_43_94, e_43_96, e_43_99, e_43_100, e_43_101, e_43_104, e_43_107, e_43_108, e_43_111, e_43_114, e_43_117, e_43_119, e_43_120, e_43_121, e_43_123, e_43_126, e_43_129, e_43_131, e_43_132, e_43_135, e_43_137, e_43_138, e_43_141, e_43_142, e_43_143, e_43_145, e_43_146, e_43_147, e_43_149, i1, i2, ex, hv, hA, m_min, m_max, cl', ior_e2 e2 hlt, sh_2, Int.reducePow, w_of (x := (bears : Int)), w_of (x := (goes : Int)), w_of (x := (1 : Int)), w_of (x := (-1 : Int)), w_of (x := (v : Int)), w_of (x := ((v : Int) / 4)), w_of (x := (e : Int)), w_of (x := (X : Int)), ne, x1, x2, o0, eqT, eqF, hoO_c, hoO_g0, hoO_k0, hoO_g1, hoO_k1, hoO_g2, hoO_k2, hoO_g3, hoO_k3, hoO_g4, hoO_k4, hoO_g5, hoO_k5, hoO_g6, hoO_k6, hoO_g7, hoO_k7, hoO_g8, hoO_k8, hoO_g9, hoO_k9, hoO_s0, hoO_s1, hoO_s2, hoO_s9, ho_1, ho_2, ho_g27, ho_g28, ho_g29, ho_g30, ho_g31, ho_g32, ho_g33, ho_out, ho_u27, ho_u28, ho_u29, ho_u30, ho_u31, ho_u32, ho_u33, ho_uo, iup_s, iup_n, aup_s, aup_n, ne_eq, not_false_eq_true, okF_0, okF_s, gF_0, gF_s, consC_o, sF_0, sF_s, clsO_o, inA_i, ldA_i, stA_i, inJ_l, ldJ_l, stJ_l, inR_r, ldR_r, stR_r, tgR_r, lenA_i, lenA_l, lenA_r, lenA_ex, nl_i, nl_o, nl_l, nl_n, wd_n, wd_i, wd_l, wd_o, fit_i, fit_l, fit_o, K_v, K_n, true_and, and_true, Nat.reduceAdd, Nat.reduceLeDiff, Nat.reduceEqDiff, Nat.reduceMul, Nat.reduceLT, reduceIte, true_or, or_true, cmp_lt, cmp_gt, cmp_eq, wb_0, b_01, cmp_lt', cmp_gt', cmp_eq', b_0, b_1, wb_1, Int.reduceSub, Int.reduceToNat, List.getD_cons_succ, List.getD_cons_zero, Int.reduceLE, Int.reduceLT, Int.reduceEq, Int.reduceNeg, Int.reduceAdd, Int.reduceMul, and_self]
        · have cl' := cl ((str : Int) + -1) (by rw [if_pos (by omega)])
          simp (disch := omega) only [e_43_0, e_43_1, e_43_4, e_43_5, e_43_6, e_43_7, e_43_8, e_43_9, e_43_10, e_43_11, e_43_12, e_43_13, e_43_14, e_43_15, e_43_16, e_43_17, e_43_18, e_43_20, e_43_21, e_43_22, e_43_23, e_43_25, e_43_26, e_43_28, e_43_29, e_43_32, e_43_34, e_43_35, e_43_37, e_43_39, e_43_40, e_43_41, e_43_42, e_43_45, e_43_48, e_43_50, e_43_51, e_43_52, e_43_53, e_43_54, e_43_55, e_43_56, e_43_59, e_43_60, e_43_63, e_43_65, e_43_66, e_43_69, e_43_70, e_43_73, e_43_74, e_43_75, e_43_77, e_43_78, e_43_81, e_43_84, e_43_85, e_43_88, e_43_89, e_43_90, e_43_91, e_43_92, e_43_94, e_43_96, e_43_99, e_43_100, e_43_101, e_43_104, e_43_107, e_43_108, e_43_111, e_43_114, e_43_117, e_43_119, e_43_120, e_43_121, e_43_123, e_43_126, e_43_129, e_43_131, e_43_132, e_43_135, e_43_137, e_43_138, e_43_141, e_43_142, e_43_143, e_43_145, e_43_146, e_43_147, e_43_149, i1, i2, ex, hv, hA, m_min, m_max, cl', ior_e2 e2 hlt, sh_2, Int.reducePow, w_of (x := (bears : Int)), w_of (x := (goes : Int)), w_of (x := (1 : Int)), w_of (x := (-1 : Int)), w_of (x := (v : Int)), w_of (x := ((v : Int) / 4)), w_of (x := (e : Int)), w_of (x := (X : Int)), ne, x1, x2, o0, eqT, eqF, hoO_c, hoO_g0, hoO_k0, hoO_g1, hoO_k1, hoO_g2, hoO_k2, hoO_g3, hoO_k3, hoO_g4, hoO_k4, hoO_g5, hoO_k5, hoO_g6, hoO_k6, hoO_g7, hoO_k7, hoO_g8, hoO_k8, hoO_g9, hoO_k9, hoO_s0, hoO_s1, hoO_s2, hoO_s9, ho_1, ho_2, ho_g27, ho_g28, ho_g29, ho_g30, ho_g31, ho_g32, ho_g33, ho_out, ho_u27, ho_u28, ho_u29, ho_u30, ho_u31, ho_u32, ho_u33, ho_uo, iup_s, iup_n, aup_s, aup_n, ne_eq, not_false_eq_true, okF_0, okF_s, gF_0, gF_s, consC_o, sF_0, sF_s, clsO_o, inA_i, ldA_i, stA_i, inJ_l, ldJ_l, stJ_l, inR_r, ldR_r, stR_r, tgR_r, lenA_i, lenA_l, lenA_r, lenA_ex, nl_i, nl_o, nl_l, nl_n, wd_n, wd_i, wd_l, wd_o, fit_i, fit_l, fit_o, K_v, K_n, true_and, and_true, Nat.reduceAdd, Nat.reduceLeDiff, Nat.reduceEqDiff, Nat.reduceMul, Nat.reduceLT, reduceIte, true_or, or_true, cmp_lt, cmp_gt, cmp_eq, wb_0, b_01, cmp_lt', cmp_gt', cmp_eq', b_0, b_1, wb_1, Int.reduceSub, Int.reduceToNat, List.getD_cons_succ, List.getD_cons_zero, Int.reduceLE, Int.reduceLT, Int.reduceEq, Int.reduceNeg, Int.reduceAdd, Int.reduceMul, and_self]
    | some o =>
      have hgl := hO.2.2.2.2.2.2.1 o hT
      rw [hT] at hlt1
      obtain ⟨f, rfl, rfl, hfn, hcode⟩ := hlt1
      have hfb := fx7_b hO (sky := sky) (p := p) (str := str) (bears := bears) (k := k) (last := (goes : Int)) s1 (by omega) hs hb (by omega)
      have hsp := lawV_spec hgl hfb
      have hbv := lawV_b hgl hfb
      have cl : (if w 0 < w (if w (tireI c sky p str bears k goes) < w 3 then tireI c sky p str bears k goes else 3) then (if w (tireI c sky p str bears k goes) < w 3 then tireI c sky p str bears k goes else 3) else 0) = (tireV c sky p str bears k goes : Int) := by
        rw [tireV_i]; exact clamp3 (by unfold tireI; rw [hT]; exact hbv)
      have hti : tireI c sky p str bears k goes = lawV false o (fx7 p (kAge c p) str bears sky (kHgt c k) goes) := by unfold tireI; rw [hT]
      rw [hti] at cl
      obtain ⟨g, hg⟩ := j_tell (i := i) (A := aup A 30 (fset (fset (fset (fset (fset (fset (fset (A 30) 0 p) 1 (kAge c p)) 2 str) 3 bears) 4 sky) 5 (kHgt c k)) 6 goes)) hca ⟨_, _, _, _, _, _, _, _, rfl⟩ hA h4 hn hfn hfb hcode (by rw [aup_s]; exact fs7) hsp.1
      have hsf := fun (d : Nat) (Q : PQ) (str bears last : Int) => j_setFacts (d := d) (Q := Q) (i := i) (A := A) (str := str) (bears := bears) (last := last) hca hC' hpn hK hk
      rw [i1] at hsf
      refine ⟨_, hoOK_t (hoOK_x (B := aup (aup A 30 (fset (fset (fset (fset (fset (fset (fset (A 30) 0 p) 1 (kAge c p)) 2 str) 3 bears) 4 sky) 5 (kHgt c k)) 6 goes)) 31 g) hI ?_ ?_) hx, ?_, ?_, fun d Q => ?_⟩
      · rw [aup_n (by omega), aup_n (by omega)]
      · rw [aup_n (by omega), aup_n (by omega)]
      · rw [aup_n (by omega), aup_n (by omega), aup_n (by omega)]
      · rw [aup_n (by omega), aup_n (by omega), aup_n (by omega)]
      · rw [hat]
        simp (disch := omega) only [e_43_0, e_43_1, e_43_4, e_43_5, e_43_6, e_43_7, e_43_8, e_43_9, e_43_10, e_43_11, e_43_12, e_43_13, e_43_14, e_43_15, e_43_16, e_43_17, e_43_18, e_43_20, e_43_21, e_43_22, e_43_23, e_43_25, e_43_26, e_43_28, e_43_29, e_43_32, e_43_34, e_43_35, e_43_37, e_43_39, e_43_40, e_43_41, e_43_42, e_43_45, e_43_48, e_43_50, e_43_51, e_43_52, e_43_53, e_43_54, e_43_55, e_43_56, e_43_59, e_43_60, e_43_63, e_43_65, e_43_66, e_43_69, e_43_70, e_43_73, e_43_74, e_43_75, e_43_77, e_43_78, e_43_81, e_43_84, e_43_85, e_43_88, e_43_89, e_43_90, e_43_91, e_43_92, e_43_94, e_43_96, e_43_99, e_43_100, e_43_101, e_43_104, e_43_107, e_43_108, e_43_111, e_43_114, e_43_117, e_43_119, e_43_120, e_43_121, e_43_123, e_43_126, e_43_129, e_43_131, e_43_132, e_43_135, e_43_137, e_43_138, e_43_141, e_43_142, e_43_143, e_43_145, e_43_146, e_43_147, e_43_149, i1, i2, ex, hv, hA, m_min, m_max, cl, hsf, hg, ior_e2 e2 hlt, sh_2, Int.reducePow, w_of (x := (bears : Int)), w_of (x := (goes : Int)), w_of (x := (1 : Int)), w_of (x := (-1 : Int)), w_of (x := (f : Int)), w_of (x := (v : Int)), w_of (x := ((v : Int) / 4)), w_of (x := (e : Int)), w_of (x := (X : Int)), ne, x1, x2, o0, eqF, hoO_c, hoO_g0, hoO_k0, hoO_g1, hoO_k1, hoO_g2, hoO_k2, hoO_g3, hoO_k3, hoO_g4, hoO_k4, hoO_g5, hoO_k5, hoO_g6, hoO_k6, hoO_g7, hoO_k7, hoO_g8, hoO_k8, hoO_g9, hoO_k9, hoO_s0, hoO_s1, hoO_s2, hoO_s9, ho_1, ho_2, ho_g27, ho_g28, ho_g29, ho_g30, ho_g31, ho_g32, ho_g33, ho_out, ho_u27, ho_u28, ho_u29, ho_u30, ho_u31, ho_u32, ho_u33, ho_uo, iup_s, iup_n, aup_s, aup_n, ne_eq, not_false_eq_true, okF_0, okF_s, gF_0, gF_s, consC_o, sF_0, sF_s, clsO_o, inA_i, ldA_i, stA_i, inJ_l, ldJ_l, stJ_l, inR_r, ldR_r, stR_r, tgR_r, lenA_i, lenA_l, lenA_r, lenA_ex, nl_i, nl_o, nl_l, nl_n, wd_n, wd_i, wd_l, wd_o, fit_i, fit_l, fit_o, K_v, K_n, true_and, and_true, Nat.reduceAdd, Nat.reduceLeDiff, Nat.reduceEqDiff, Nat.reduceMul, Nat.reduceLT, reduceIte, true_or, or_true, cmp_lt, cmp_gt, cmp_eq, wb_0, b_01, cmp_lt', cmp_gt', cmp_eq', b_0, b_1, wb_1, Int.reduceSub, Int.reduceToNat, List.getD_cons_succ, List.getD_cons_zero, Int.reduceLE, Int.reduceLT, Int.reduceEq, Int.reduceNeg, Int.reduceAdd, Int.reduceMul, and_self]
        by_cases q1 : (bears : Int) = 1 <;> by_cases q2 : (goes : Int) = 1 <;> simp only [q1, q2, if_true, if_false, ite_self]

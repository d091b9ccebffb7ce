/-! THE REFERENCE: how long it can be kept up, beast or not -/
/-- kept up for n hours, with so many of the kin that a beast may weary behind each hour -/
def sv (c : KC) (sky nb : Nat) : Nat → ST → Prop
  | 0, _ => True
  | n + 1, s => ∃ m, m < 19 ∧ canM c sky s m = true ∧ (downB c (toM c sky s m) = false ∧ sv c sky nb n (toM c sky s m)) ∧ ∀ p, p < nb → downB c (weakS (toM c sky s m) p) = false ∧ sv c sky nb n (weakS (toM c sky s m) p)
theorem sv_s {c : KC} {sky nb n : Nat} {s : ST} : sv c sky nb (n + 1) s ↔ ∃ m, m < 19 ∧ canM c sky s m = true ∧ (downB c (toM c sky s m) = false ∧ sv c sky nb n (toM c sky s m)) ∧ ∀ p, p < nb → downB c (weakS (toM c sky s m) p) = false ∧ sv c sky nb n (weakS (toM c sky s m) p) := Iff.rfl
theorem sv_mono {c : KC} {sky nb : Nat} : ∀ n s, sv c sky nb (n + 1) s → sv c sky nb n s := by
  intro n
  induction n with
  | zero => intro s _; trivial
  | succ n ih =>
    intro s h
    obtain ⟨m, h1, h2, h3, h4⟩ := sv_s.mp h
    exact sv_s.mpr ⟨m, h1, h2, ⟨h3.1, ih _ h3.2⟩, fun p hp => ⟨(h4 p hp).1, ih _ (h4 p hp).2⟩⟩
theorem sv_le {c : KC} {sky nb : Nat} {s : ST} {m : Nat} : ∀ {n : Nat}, m ≤ n → sv c sky nb n s → sv c sky nb m s := by
  intro n hn
  induction hn with
  | refl => exact fun h => h
  | step _ ih => exact fun h => ih (sv_mono _ _ h)
theorem needB_3 {c : KC} {sky : Nat} {s : ST} {x : Nat × ST} (hK : okK c) (hx : x ∈ nx c sky s) : needB x.1 3 = false := by
  have hN := hK.2.2
  obtain ⟨m, h1, h2, rfl⟩ := nx_mem.mp hx
  rcases isMv_cases (canM_mv h2) with q | ⟨g1, g2, g3⟩ | ⟨p, to, rfl, h5, g3, g4⟩
  · subst q; rfl
  · show needB (deedM m) 3 = false
    rw [deedM_h g1 g2]; unfold needB; rw [if_neg (by omega), if_pos (by omega)]; exact decide_eq_false (by omega)
  · show needB (deedM (4 + 5 * p + to)) 3 = false
    rw [deedM_g h5]; unfold needB; rw [if_neg (by omega), if_neg (by omega)]; exact decide_eq_false (by omega)
theorem needM_3 {c : KC} {m : Nat} (hK : okK c) (h : isMv c m = true) : needM m 3 = false := by
  have hN := hK.2.2
  unfold needM
  rcases isMv_cases h with q | ⟨g1, g2, g3⟩ | ⟨p, to, rfl, h5, g3, g4⟩
  · subst q; rfl
  · rw [if_pos g2, decide_eq_false (show ¬ m - 1 = 3 by omega)]; simp
  · rw [if_neg (by omega), decide_eq_false (show ¬ (4 + 5 * p + to - 4) / 5 = 3 by omega)]; simp
theorem alwM_3 {c : KC} {sky : Nat} {s : ST} {m : Nat} (hK : okK c) : alwM c sky 3 s m = canM c sky s m := by
  unfold alwM
  by_cases q : canM c sky s m = true
  · rw [needM_3 hK (canM_mv q), q]; rfl
  · have : canM c sky s m = false := by simpa using q
    rw [this]; simp
theorem sv_surv {c : KC} {sky : Nat} (hK : okK c) : ∀ n s, sv c sky 0 n s ↔ surv c sky 3 n s := by
  intro n
  induction n with
  | zero => intro s; exact ⟨fun _ => trivial, fun _ => trivial⟩
  | succ n ih =>
    intro s
    rw [sv_s, surv_s]
    constructor
    · rintro ⟨m, h1, h2, h3, -⟩
      have hx := nx_mem.mpr ⟨m, h1, h2, rfl⟩
      exact ⟨_, en_mem.mpr ⟨hx, h3.1, needB_3 hK hx⟩, (ih _).mp h3.2⟩
    · rintro ⟨x, h1, h2⟩
      obtain ⟨g1, g2, -⟩ := en_mem.mp h1
      obtain ⟨m, k1, k2, rfl⟩ := nx_mem.mp g1
      exact ⟨m, k1, k2, ⟨g2, (ih _).mpr h2⟩, fun p hp => absurd hp (by omega)⟩
theorem bear_up {c : KC} {t : ST} (hK : okK c) (ht : okS c t) : (downB c t = false ∧ ∀ p, p < kN c → downB c (weakS t p) = false) ↔ 2 ≤ bearS c t := by
  unfold bearS downB
  by_cases h0 : kN c = 0
  · simp [h0]
  · have hb := bear_lt ht h0
    simp only [h0, decide_false, Bool.false_or, if_false, decide_eq_false_iff_not]
    constructor
    · rintro ⟨h1, h2⟩
      have h3 := h2 t.1 hb
      have e : weakS t t.1 = (t.1, t.2.1, fup t.2.2 t.1 (t.2.2 t.1 - 1)) := by unfold weakS; rw [if_neg h1]
      rw [e] at h3
      dsimp only at h3
      rw [fup_self] at h3
      omega
    · intro h1
      refine ⟨by omega, fun p hp => ?_⟩
      unfold weakS
      by_cases q : t.2.2 p = 0
      · rw [if_pos q]; omega
      · rw [if_neg q]
        dsimp only
        by_cases z : t.1 = p
        · rw [← z, fup_self]; omega
        · rw [fup_ne z]; omega
theorem sv_survB {c : KC} {sky : Nat} (hK : okK c) : ∀ n s, okS c s → (sv c sky (kN c) n s ↔ survB c sky n s) := by
  intro n
  induction n with
  | zero => intro s _; exact ⟨fun _ => trivial, fun _ => trivial⟩
  | succ n ih =>
    intro s hs
    rw [sv_s, survB_s]
    constructor
    · rintro ⟨m, h1, h2, h3, h4⟩
      have ho := toM_ok (sky := sky) hs (canM_mv h2)
      refine ⟨_, nx_mem.mpr ⟨m, h1, h2, rfl⟩, (bear_up hK ho).mp ⟨h3.1, fun p hp => (h4 p hp).1⟩, (ih _ ho).mp h3.2, fun p hp => (ih _ (weakS_ok ho hp)).mp (h4 p hp).2⟩
    · rintro ⟨x, h1, h2, h3, h4⟩
      obtain ⟨m, k1, k2, rfl⟩ := nx_mem.mp h1
      have ho := toM_ok (sky := sky) hs (canM_mv k2)
      obtain ⟨u1, u2⟩ := (bear_up hK ho).mpr h2
      exact ⟨m, k1, k2, ⟨u1, (ih _ ho).mpr h3⟩, fun p hp => ⟨u2 p hp, (ih _ (weakS_ok ho hp)).mpr (h4 p hp)⟩⟩
def valV (c : KC) (sky nb : Nat) (s : ST) (v : Nat) : Prop := sv c sky nb v s ∧ ¬ sv c sky nb (v + 1) s
theorem valV_lt {c : KC} {sky nb : Nat} (hK : okK c) (hnb : nb = 0 ∨ nb = kN c) {s : ST} (hs : okS c s) {v : Nat} (h : valV c sky nb s v) : v < szC c := by
  rcases hnb with q | q
  · subst q
    exact valS_lt (b := 3) (sky := sky) hK hs ⟨(sv_surv hK v s).mp h.1, fun z => h.2 ((sv_surv hK _ s).mpr z)⟩
  · subst q
    exact valB_lt (sky := sky) hK hs ⟨(sv_survB hK v s hs).mp h.1, fun z => h.2 ((sv_survB hK _ s hs).mpr z)⟩
noncomputable def upsTo (c : KC) (t : ST) : Nat → Bool
  | 0 => !downB c t
  | p + 1 => upsTo c t p && !downB c (weakS t p)
theorem upsTo_iff {c : KC} {t : ST} : ∀ {n : Nat}, upsTo c t n = true ↔ downB c t = false ∧ ∀ p, p < n → downB c (weakS t p) = false
  | 0 => by
    show (!downB c t) = true ↔ _
    simp
  | n + 1 => by
    show (upsTo c t n && !downB c (weakS t n)) = true ↔ _
    rw [Bool.and_eq_true, upsTo_iff (n := n)]
    constructor
    · rintro ⟨⟨h1, h2⟩, h3⟩
      refine ⟨h1, fun p hp => ?_⟩
      by_cases q : p = n
      · subst q; simpa using h3
      · exact h2 p (by omega)
    · rintro ⟨h1, h2⟩
      exact ⟨⟨h1, fun p hp => h2 p (by omega)⟩, by simpa using h2 n (by omega)⟩
noncomputable def lst (fn : ST → Int) (t : ST) : Nat → Int
  | 0 => fn t
  | p + 1 => if fn (weakS t p) < lst fn t p then fn (weakS t p) else lst fn t p
theorem lst_le {fn : ST → Int} {t : ST} : ∀ {n : Nat}, lst fn t n ≤ fn t ∧ ∀ p, p < n → lst fn t n ≤ fn (weakS t p)
  | 0 => ⟨Int.le_refl _, fun p hp => absurd hp (by omega)⟩
  | n + 1 => by
    obtain ⟨h1, h2⟩ := lst_le (fn := fn) (t := t) (n := n)
    have e : lst fn t (n + 1) = if fn (weakS t n) < lst fn t n then fn (weakS t n) else lst fn t n := rfl
    rw [e]
    refine ⟨by split <;> omega, fun p hp => ?_⟩
    by_cases q : p = n
    · subst q; split <;> omega
    · have := h2 p (by omega); split <;> omega
theorem lst_ex {fn : ST → Int} {t : ST} : ∀ {n : Nat}, lst fn t n = fn t ∨ ∃ p, p < n ∧ lst fn t n = fn (weakS t p)
  | 0 => Or.inl rfl
  | n + 1 => by
    have e : lst fn t (n + 1) = if fn (weakS t n) < lst fn t n then fn (weakS t n) else lst fn t n := rfl
    rw [e]
    by_cases q : fn (weakS t n) < lst fn t n
    · rw [if_pos q]; exact Or.inr ⟨n, by omega, rfl⟩
    · rw [if_neg q]
      rcases lst_ex (fn := fn) (t := t) (n := n) with h | ⟨p, h1, h2⟩
      · exact Or.inl h
      · exact Or.inr ⟨p, by omega, h2⟩
noncomputable def upV (c : KC) (sky nb : Nat) (fn : ST → Int) (x : ST) (m : Nat) : Int := if (canM c sky x m && upsTo c (toM c sky x m) nb) = true then (if lst fn (toM c sky x m) nb = 268435456 then 268435456 else lst fn (toM c sky x m) nb + 1) else -1
def fnw (i : Nat → Int) (A : Nat → Int → Int) (u : ST) : Int := if A 81 (A 82 (encR u)) < i 26 then A 81 (A 82 (encR u)) else 268435456
def farB (L : List ST) (i : Nat → Int) (A : Nat → Int → Int) : Prop := (∀ j : Nat, j < L.length → 0 ≤ A 81 j ∧ A 81 j ≤ 268435456) ∧ 0 ≤ i 26 ∧ i 26 ≤ 268435456
theorem r_isUp {d k : Nat} {h : PH} {i : Nat → Int} {A : Nat → Int → Int} {c : KC} {L : List ST} {x : ST} {Q : PQ} (hK : okK c) (hR : ctyR (A 72) c) (hL : stkR c L i A) (hx : L[k]? = some x) :
    WP (d + 2) 243 0 [some (vr 71), some (vi k)] [] (mdH h i A) Q = Q (some (vi (if downB c x then 0 else 1))) (mdH h i A) := by
  have hxo := hL.2.1 x (List.mem_of_getElem? hx)
  have hkl := (List.getElem?_eq_some_iff.mp hx).1
  have hlen := stkR_len hK hL
  have h79 := (hL.2.2.1 k x hx).1
  have q2 := fun (d : Nat) (Q : PQ) => r_isDown (d := d) (h := h) (i := i) (Q := Q) hK hR hxo
  by_cases hd : downB c x = true
  · simp only [hd, if_true] at q2 ⊢
    simp (disch := omega) only [e_243_0, e_243_1, e_243_2, e_243_5, e_243_6, e_243_7, e_243_10, e_243_13, e_243_14, e_243_17, e_243_18, h79, q2, mdO_c, mdO_g0, mdO_k0, mdO_g1, mdO_k1, mdO_g2, mdO_k2, mdO_g3, mdO_k3, mdO_g4, mdO_k4, mdO_g5, mdO_k5, mdO_g6, mdO_k6, mdO_g7, mdO_k7, mdO_g8, mdO_k8, mdO_g9, mdO_k9, mdO_g10, mdO_k10, mdO_g11, mdO_k11, mdO_g12, mdO_k12, mdO_g13, mdO_k13, mdO_g14, mdO_k14, mdO_g15, mdO_k15, mdO_g16, mdO_k16, mdO_g17, mdO_k17, mdO_g18, mdO_k18, mdO_g19, mdO_k19, mdO_g20, mdO_k20, mdO_g21, mdO_k21, mdO_g22, mdO_k22, mdO_g23, mdO_k23, mdO_g24, mdO_k24, mdO_g25, mdO_k25, mdO_g26, mdO_k26, mdO_g27, mdO_k27, mdO_g28, mdO_k28, mdO_g29, mdO_k29, mdO_g30, mdO_k30, mdO_g31, mdO_k31, mdO_g32, mdO_k32, mdO_g33, mdO_k33, mdO_g34, mdO_k34, mdO_g35, mdO_k35, mdO_s0, mdO_s5, mdO_s6, mdO_s7, mdO_s8, mdO_s9, mdO_s10, mdO_s11, mdO_s12, mdO_s13, mdO_s14, mdO_s15, mdO_s19, mdO_s20, mdO_s25, mdO_s26, mdO_s31, mdO_s32, md_1, md_2, md_g71, md_g72, md_g73, md_g74, md_g75, md_g76, md_g77, md_g78, md_g79, md_g80, md_g81, md_g82, md_g83, md_g84, md_g85, md_g86, md_g87, md_g88, md_g89, md_out, md_u71, md_u72, md_u73, md_u74, md_u75, md_u76, md_u77, md_u78, md_u79, md_u80, md_u81, md_u82, md_u83, md_u84, md_u85, md_u86, md_u87, md_u88, md_u89, md_uo, iup_s, iup_n, aup_s, aup_n, ne_eq, not_false_eq_true, sh_0, sh_1, sh_2, sh_3, sh_4, sh_5, sh_8, sh_15, sh_16, sh_24, Int.reducePow, Int.cast_ofNat_Int, w_of, wl_of, ltT, ltF, leT, leF, eqT, eqF, okF_0, okF_s, gF_0, gF_s, consC_o, sF_0, sF_s, clsO_o, inA_i, ldA_i, stA_i, inJ_l, ldJ_l, stJ_l, inR_r, ldR_r, stR_r, tgR_r, lenA_i, lenA_l, lenA_r, lenA_ex, nl_i, nl_o, nl_l, nl_n, wd_n, wd_i, wd_l, wd_o, fit_i, fit_l, fit_o, K_v, K_n, true_and, and_true, Nat.reduceAdd, Nat.reduceLeDiff, Nat.reduceEqDiff, Nat.reduceMul, Nat.reduceLT, reduceIte, true_or, or_true, cmp_lt, cmp_gt, cmp_eq, wb_0, b_01, cmp_lt', cmp_gt', cmp_eq', b_0, b_1, wb_1, Int.reduceSub, Int.reduceToNat, List.getD_cons_succ, List.getD_cons_zero, Int.reduceLE, Int.reduceLT, Int.reduceEq, Int.reduceNeg, Int.reduceAdd, Int.reduceMul, and_self, em_b, ne_eq, not_false_eq_true, not_true_eq_false]
  · simp only [hd, if_false, Bool.false_eq_true] at q2 ⊢
    simp (disch := omega) only [e_243_0, e_243_1, e_243_2, e_243_5, e_243_6, e_243_7, e_243_10, e_243_13, e_243_14, e_243_17, e_243_18, h79, q2, mdO_c, mdO_g0, mdO_k0, mdO_g1, mdO_k1, mdO_g2, mdO_k2, mdO_g3, mdO_k3, mdO_g4, mdO_k4, mdO_g5, mdO_k5, mdO_g6, mdO_k6, mdO_g7, mdO_k7, mdO_g8, mdO_k8, mdO_g9, mdO_k9, mdO_g10, mdO_k10, mdO_g11, mdO_k11, mdO_g12, mdO_k12, mdO_g13, mdO_k13, mdO_g14, mdO_k14, mdO_g15, mdO_k15, mdO_g16, mdO_k16, mdO_g17, mdO_k17, mdO_g18, mdO_k18, mdO_g19, mdO_k19, mdO_g20, mdO_k20, mdO_g21, mdO_k21, mdO_g22, mdO_k22, mdO_g23, mdO_k23, mdO_g24, mdO_k24, mdO_g25, mdO_k25, mdO_g26, mdO_k26, mdO_g27, mdO_k27, mdO_g28, mdO_k28, mdO_g29, mdO_k29, mdO_g30, mdO_k30, mdO_g31, mdO_k31, mdO_g32, mdO_k32, mdO_g33, mdO_k33, mdO_g34, mdO_k34, mdO_g35, mdO_k35, mdO_s0, mdO_s5, mdO_s6, mdO_s7, mdO_s8, mdO_s9, mdO_s10, mdO_s11, mdO_s12, mdO_s13, mdO_s14, mdO_s15, mdO_s19, mdO_s20, mdO_s25, mdO_s26, mdO_s31, mdO_s32, md_1, md_2, md_g71, md_g72, md_g73, md_g74, md_g75, md_g76, md_g77, md_g78, md_g79, md_g80, md_g81, md_g82, md_g83, md_g84, md_g85, md_g86, md_g87, md_g88, md_g89, md_out, md_u71, md_u72, md_u73, md_u74, md_u75, md_u76, md_u77, md_u78, md_u79, md_u80, md_u81, md_u82, md_u83, md_u84, md_u85, md_u86, md_u87, md_u88, md_u89, md_uo, iup_s, iup_n, aup_s, aup_n, ne_eq, not_false_eq_true, sh_0, sh_1, sh_2, sh_3, sh_4, sh_5, sh_8, sh_15, sh_16, sh_24, Int.reducePow, Int.cast_ofNat_Int, w_of, wl_of, ltT, ltF, leT, leF, eqT, eqF, okF_0, okF_s, gF_0, gF_s, consC_o, sF_0, sF_s, clsO_o, inA_i, ldA_i, stA_i, inJ_l, ldJ_l, stJ_l, inR_r, ldR_r, stR_r, tgR_r, lenA_i, lenA_l, lenA_r, lenA_ex, nl_i, nl_o, nl_l, nl_n, wd_n, wd_i, wd_l, wd_o, fit_i, fit_l, fit_o, K_v, K_n, true_and, and_true, Nat.reduceAdd, Nat.reduceLeDiff, Nat.reduceEqDiff, Nat.reduceMul, Nat.reduceLT, reduceIte, true_or, or_true, cmp_lt, cmp_gt, cmp_eq, wb_0, b_01, cmp_lt', cmp_gt', cmp_eq', b_0, b_1, wb_1, Int.reduceSub, Int.reduceToNat, List.getD_cons_succ, List.getD_cons_zero, Int.reduceLE, Int.reduceLT, Int.reduceEq, Int.reduceNeg, Int.reduceAdd, Int.reduceMul, and_self, em_b, ne_eq, not_false_eq_true, not_true_eq_false]
theorem r_farNow {d k : Nat} {h : PH} {i : Nat → Int} {A : Nat → Int → Int} {L : List ST} {Q : PQ} (hB : farB L i A) (hk : k < L.length) (hl : L.length ≤ 24000) :
    WP d 245 0 [some (vr 71), some (vi k)] [] (mdH h i A) Q = Q (some (vi (if A 81 k < i 26 then A 81 k else 268435456))) (mdH h i A) := by
  have h1 := hB.1 k hk
  have h2 := hB.2
  by_cases q : A 81 k < i 26
  · rw [if_pos q]
    simp (disch := omega) only [e_245_0, e_245_1, e_245_4, e_245_5, e_245_6, e_245_7, e_245_10, e_245_13, e_245_14, e_245_17, e_245_18, e_245_19, e_245_22, e_245_24, mdO_c, mdO_g0, mdO_k0, mdO_g1, mdO_k1, mdO_g2, mdO_k2, mdO_g3, mdO_k3, mdO_g4, mdO_k4, mdO_g5, mdO_k5, mdO_g6, mdO_k6, mdO_g7, mdO_k7, mdO_g8, mdO_k8, mdO_g9, mdO_k9, mdO_g10, mdO_k10, mdO_g11, mdO_k11, mdO_g12, mdO_k12, mdO_g13, mdO_k13, mdO_g14, mdO_k14, mdO_g15, mdO_k15, mdO_g16, mdO_k16, mdO_g17, mdO_k17, mdO_g18, mdO_k18, mdO_g19, mdO_k19, mdO_g20, mdO_k20, mdO_g21, mdO_k21, mdO_g22, mdO_k22, mdO_g23, mdO_k23, mdO_g24, mdO_k24, mdO_g25, mdO_k25, mdO_g26, mdO_k26, mdO_g27, mdO_k27, mdO_g28, mdO_k28, mdO_g29, mdO_k29, mdO_g30, mdO_k30, mdO_g31, mdO_k31, mdO_g32, mdO_k32, mdO_g33, mdO_k33, mdO_g34, mdO_k34, mdO_g35, mdO_k35, mdO_s0, mdO_s5, mdO_s6, mdO_s7, mdO_s8, mdO_s9, mdO_s10, mdO_s11, mdO_s12, mdO_s13, mdO_s14, mdO_s15, mdO_s19, mdO_s20, mdO_s25, mdO_s26, mdO_s31, mdO_s32, md_1, md_2, md_g71, md_g72, md_g73, md_g74, md_g75, md_g76, md_g77, md_g78, md_g79, md_g80, md_g81, md_g82, md_g83, md_g84, md_g85, md_g86, md_g87, md_g88, md_g89, md_out, md_u71, md_u72, md_u73, md_u74, md_u75, md_u76, md_u77, md_u78, md_u79, md_u80, md_u81, md_u82, md_u83, md_u84, md_u85, md_u86, md_u87, md_u88, md_u89, md_uo, iup_s, iup_n, aup_s, aup_n, ne_eq, not_false_eq_true, sh_0, sh_1, sh_2, sh_3, sh_4, sh_5, sh_8, sh_15, sh_16, sh_24, Int.reducePow, Int.cast_ofNat_Int, w_of, wl_of, ltT, ltF, leT, leF, eqT, eqF, okF_0, okF_s, gF_0, gF_s, consC_o, sF_0, sF_s, clsO_o, inA_i, ldA_i, stA_i, inJ_l, ldJ_l, stJ_l, inR_r, ldR_r, stR_r, tgR_r, lenA_i, lenA_l, lenA_r, lenA_ex, nl_i, nl_o, nl_l, nl_n, wd_n, wd_i, wd_l, wd_o, fit_i, fit_l, fit_o, K_v, K_n, true_and, and_true, Nat.reduceAdd, Nat.reduceLeDiff, Nat.reduceEqDiff, Nat.reduceMul, Nat.reduceLT, reduceIte, true_or, or_true, cmp_lt, cmp_gt, cmp_eq, wb_0, b_01, cmp_lt', cmp_gt', cmp_eq', b_0, b_1, wb_1, Int.reduceSub, Int.reduceToNat, List.getD_cons_succ, List.getD_cons_zero, Int.reduceLE, Int.reduceLT, Int.reduceEq, Int.reduceNeg, Int.reduceAdd, Int.reduceMul, and_self, em_b, ne_eq, not_false_eq_true, not_true_eq_false]
  · rw [if_neg q]
    simp (disch := omega) only [e_245_0, e_245_1, e_245_4, e_245_5, e_245_6, e_245_7, e_245_10, e_245_13, e_245_14, e_245_17, e_245_18, e_245_19, e_245_22, e_245_24, mdO_c, mdO_g0, mdO_k0, mdO_g1, mdO_k1, mdO_g2, mdO_k2, mdO_g3, mdO_k3, mdO_g4, mdO_k4, mdO_g5, mdO_k5, mdO_g6, mdO_k6, mdO_g7, mdO_k7, mdO_g8, mdO_k8, mdO_g9, mdO_k9, mdO_g10, mdO_k10, mdO_g11, mdO_k11, mdO_g12, mdO_k12, mdO_g13, mdO_k13, mdO_g14, mdO_k14, mdO_g15, mdO_k15, mdO_g16, mdO_k16, mdO_g17, mdO_k17, mdO_g18, mdO_k18, mdO_g19, mdO_k19, mdO_g20, mdO_k20, mdO_g21, mdO_k21, mdO_g22, mdO_k22, mdO_g23, mdO_k23, mdO_g24, mdO_k24, mdO_g25, mdO_k25, mdO_g26, mdO_k26, mdO_g27, mdO_k27, mdO_g28, mdO_k28, mdO_g29, mdO_k29, mdO_g30, mdO_k30, mdO_g31, mdO_k31, mdO_g32, mdO_k32, mdO_g33, mdO_k33, mdO_g34, mdO_k34, mdO_g35, mdO_k35, mdO_s0, mdO_s5, mdO_s6, mdO_s7, mdO_s8, mdO_s9, mdO_s10, mdO_s11, mdO_s12, mdO_s13, mdO_s14, mdO_s15, mdO_s19, mdO_s20, mdO_s25, mdO_s26, mdO_s31, mdO_s32, md_1, md_2, md_g71, md_g72, md_g73, md_g74, md_g75, md_g76, md_g77, md_g78, md_g79, md_g80, md_g81, md_g82, md_g83, md_g84, md_g85, md_g86, md_g87, md_g88, md_g89, md_out, md_u71, md_u72, md_u73, md_u74, md_u75, md_u76, md_u77, md_u78, md_u79, md_u80, md_u81, md_u82, md_u83, md_u84, md_u85, md_u86, md_u87, md_u88, md_u89, md_uo, iup_s, iup_n, aup_s, aup_n, ne_eq, not_false_eq_true, sh_0, sh_1, sh_2, sh_3, sh_4, sh_5, sh_8, sh_15, sh_16, sh_24, Int.reducePow, Int.cast_ofNat_Int, w_of, wl_of, ltT, ltF, leT, leF, eqT, eqF, okF_0, okF_s, gF_0, gF_s, consC_o, sF_0, sF_s, clsO_o, inA_i, ldA_i, stA_i, inJ_l, ldJ_l, stJ_l, inR_r, ldR_r, stR_r, tgR_r, lenA_i, lenA_l, lenA_r, lenA_ex, nl_i, nl_o, nl_l, nl_n, wd_n, wd_i, wd_l, wd_o, fit_i, fit_l, fit_o, K_v, K_n, true_and, and_true, Nat.reduceAdd, Nat.reduceLeDiff, Nat.reduceEqDiff, Nat.reduceMul, Nat.reduceLT, reduceIte, true_or, or_true, cmp_lt, cmp_gt, cmp_eq, wb_0, b_01, cmp_lt', cmp_gt', cmp_eq', b_0, b_1, wb_1, Int.reduceSub, Int.reduceToNat, List.getD_cons_succ, List.getD_cons_zero, Int.reduceLE, Int.reduceLT, Int.reduceEq, Int.reduceNeg, Int.reduceAdd, Int.reduceMul, and_self, em_b, ne_eq, not_false_eq_true, not_true_eq_false]
theorem fnw_at {i : Nat → Int} {A : Nat → Int → Int} {c : KC} {L : List ST} {x : ST} {k : Nat} (hL : stkR c L i A) (hx : L[k]? = some x) : fnw i A x = if A 81 k < i 26 then A 81 k else 268435456 := by
  unfold fnw; rw [(hL.2.2.1 k x hx).2]
theorem fnw_b {i : Nat → Int} {A : Nat → Int → Int} {c : KC} {L : List ST} {x : ST} (hL : stkR c L i A) (hB : farB L i A) (hx : x ∈ L) : 0 ≤ fnw i A x ∧ fnw i A x ≤ 268435456 := by
  obtain ⟨k, hk⟩ := List.getElem?_of_mem hx
  have h1 := hB.1 k (List.getElem?_eq_some_iff.mp hk).1
  rw [fnw_at hL hk]
  split <;> omega
theorem lst_b {i : Nat → Int} {A : Nat → Int → Int} {c : KC} {L : List ST} {y : ST} {n : Nat} (hL : stkR c L i A) (hB : farB L i A) (hy : y ∈ L) (hw : ∀ p, p < n → weakS y p ∈ L) : 0 ≤ lst (fnw i A) y n ∧ lst (fnw i A) y n ≤ 268435456 := by
  have h1 := fnw_b hL hB hy
  have h2 := (lst_le (fn := fnw i A) (t := y) (n := n)).1
  refine ⟨?_, by omega⟩
  rcases lst_ex (fn := fnw i A) (t := y) (n := n) with h | ⟨p, hp, h⟩
  · omega
  · have := fnw_b hL hB (hw p hp); omega
theorem r_upBy {h : PH} {i : Nat → Int} {A : Nat → Int → Int} {c : KC} {sky k m : Nat} {bt : Bool} {s x : ST} {L : List ST} (hO : okC c) (hR : ctyR (A 72) c) (hL : laidR c sky 3 bt s L i A) (hB : farB L i A) (hx : L[k]? = some x) (hm : m < 19) :
    ∀ d Q, WP (d + 3) 246 0 [some (vr 71), some (vi k), some (vi m), some (vi (if bt then 1 else 0)), none, none, none, none] [] (mdH h i A) Q = Q (some (vi (upV c sky (if bt then kN c else 0) (fnw i A) x m))) (mdH h i A) := by
  have hK := hO.1
  have hN := hK.2.2
  have hkl := (List.getElem?_eq_some_iff.mp hx).1
  have hlen := stkR_len hK hL.1
  have hn := hR.2.2.1
  have e1 : (19 : Int) * (k : Int) + (m : Int) = ((19 * k + m : Nat) : Int) := by omega
  intro d Q
  rcases hL.2.2.1 k m hkl hm x hx with ⟨ha, t, h80, ht, hw⟩ | ⟨ha, h80⟩
  · rw [alwM_3 hK] at ha
    have htl := (List.getElem?_eq_some_iff.mp ht).1
    have hy := hL.1.2.1 _ (List.mem_of_getElem? ht)
    have up1 := fun (d : Nat) (Q : PQ) => r_isUp (d := d) (h := h) (Q := Q) hK hR hL.1 ht
    have fn1 := fun (d : Nat) (Q : PQ) => r_farNow (d := d) (h := h) (Q := Q) hB htl hlen
    simp only [← fnw_at hL.1 ht] at fn1
    have h79 := (hL.1.2.2.1 t _ ht).1
    have hym := List.mem_of_getElem? ht
    unfold upV
    rw [ha, Bool.true_and]
    generalize toM c sky x m = y at *
    by_cases hd : downB c y = true
    · have hu : upsTo c y (if bt then kN c else 0) = false := by
        cases hu : upsTo c y (if bt then kN c else 0) with
        | false => rfl
        | true => have := (upsTo_iff.mp hu).1; rw [hd] at this; cases this
      simp only [hd, if_true] at up1
      simp only [hu, if_false, Bool.false_eq_true]
      simp (disch := omega) only [e_246_0, e_246_1, e_246_4, e_246_6, e_246_7, e_246_8, e_246_9, e_246_10, e_246_11, e_246_13, e_246_15, e_246_16, e_246_19, e_246_20, e_246_22, e_246_25, e_246_28, e_246_29, e1, h80, up1, mdO_c, mdO_g0, mdO_k0, mdO_g1, mdO_k1, mdO_g2, mdO_k2, mdO_g3, mdO_k3, mdO_g4, mdO_k4, mdO_g5, mdO_k5, mdO_g6, mdO_k6, mdO_g7, mdO_k7, mdO_g8, mdO_k8, mdO_g9, mdO_k9, mdO_g10, mdO_k10, mdO_g11, mdO_k11, mdO_g12, mdO_k12, mdO_g13, mdO_k13, mdO_g14, mdO_k14, mdO_g15, mdO_k15, mdO_g16, mdO_k16, mdO_g17, mdO_k17, mdO_g18, mdO_k18, mdO_g19, mdO_k19, mdO_g20, mdO_k20, mdO_g21, mdO_k21, mdO_g22, mdO_k22, mdO_g23, mdO_k23, mdO_g24, mdO_k24, mdO_g25, mdO_k25, mdO_g26, mdO_k26, mdO_g27, mdO_k27, mdO_g28, mdO_k28, mdO_g29, mdO_k29, mdO_g30, mdO_k30, mdO_g31, mdO_k31, mdO_g32, mdO_k32, mdO_g33, mdO_k33, mdO_g34, mdO_k34, mdO_g35, mdO_k35, mdO_s0, mdO_s5, mdO_s6, mdO_s7, mdO_s8, mdO_s9, mdO_s10, mdO_s11, mdO_s12, mdO_s13, mdO_s14, mdO_s15, mdO_s19, mdO_s20, mdO_s25, mdO_s26, mdO_s31, mdO_s32, md_1, md_2, md_g71, md_g72, md_g73, md_g74, md_g75, md_g76, md_g77, md_g78, md_g79, md_g80, md_g81, md_g82, md_g83, md_g84, md_g85, md_g86, md_g87, md_g88, md_g89, md_out, md_u71, md_u72, md_u73, md_u74, md_u75, md_u76, md_u77, md_u78, md_u79, md_u80, md_u81, md_u82, md_u83, md_u84, md_u85, md_u86, md_u87, md_u88, md_u89, md_uo, iup_s, iup_n, aup_s, aup_n, ne_eq, not_false_eq_true, sh_0, sh_1, sh_2, sh_3, sh_4, sh_5, sh_8, sh_15, sh_16, sh_24, Int.reducePow, Int.cast_ofNat_Int, w_of, wl_of, ltT, ltF, leT, leF, eqT, eqF, okF_0, okF_s, gF_0, gF_s, consC_o, sF_0, sF_s, clsO_o, inA_i, ldA_i, stA_i, inJ_l, ldJ_l, stJ_l, inR_r, ldR_r, stR_r, tgR_r, lenA_i, lenA_l, lenA_r, lenA_ex, nl_i, nl_o, nl_l, nl_n, wd_n, wd_i, wd_l, wd_o, fit_i, fit_l, fit_o, K_v, K_n, true_and, and_true, Nat.reduceAdd, Nat.reduceLeDiff, Nat.reduceEqDiff, Nat.reduceMul, Nat.reduceLT, reduceIte, true_or, or_true, cmp_lt, cmp_gt, cmp_eq, wb_0, b_01, cmp_lt', cmp_gt', cmp_eq', b_0, b_1, wb_1, Int.reduceSub, Int.reduceToNat, List.getD_cons_succ, List.getD_cons_zero, Int.reduceLE, Int.reduceLT, Int.reduceEq, Int.reduceNeg, Int.reduceAdd, Int.reduceMul, and_self, em_b, ne_eq, not_false_eq_true, not_true_eq_false]
    · have hd' : downB c y = false := by simpa using hd
      simp only [hd', if_false, Bool.false_eq_true] at up1
      have hb0 := fnw_b hL.1 hB hym
      cases bt with
      | false =>
        have hu : upsTo c y 0 = true := by show (!downB c y) = true; rw [hd']; rfl
        simp only [if_false, Bool.false_eq_true, hu, if_true]
        have e2 : lst (fnw i A) y 0 = fnw i A y := rfl
        rw [e2]
        by_cases hF : fnw i A y = 268435456
        · rw [if_pos hF]
          rcases Nat.eq_zero_or_pos (kN c) with q | q
          · simp (disch := omega) only [e_246_0, e_246_1, e_246_4, e_246_6, e_246_7, e_246_8, e_246_9, e_246_10, e_246_11, e_246_13, e_246_15, e_246_16, e_246_19, e_246_20, e_246_22, e_246_25, e_246_28, e_246_29, e_246_30, e_246_31, e_246_33, e_246_36, e_246_38, e_246_39, e_246_41, e_246_43, e_246_44, e_246_47, e_246_48, e_246_49, e_246_52, e_246_53, e_246_56, e_246_57, e_246_60, e_246_61, e_246_62, e_246_65, e_246_67, e_246_68, e_246_70, e_246_73, e_246_74, e_246_76, e_246_77, e_246_79, e_246_82, e_246_85, e_246_86, e_246_87, e_246_88, e_246_90, e_246_93, e_246_95, e_246_98, e_246_99, e_246_101, e_246_104, e_246_107, e_246_109, e_246_111, e_246_114, e_246_117, e_246_119, e_246_121, e_246_124, e_246_126, e_246_129, e_246_131, e_246_132, e_246_133, e1, h80, up1, fn1, hn, mdO_c, mdO_g0, mdO_k0, mdO_g1, mdO_k1, mdO_g2, mdO_k2, mdO_g3, mdO_k3, mdO_g4, mdO_k4, mdO_g5, mdO_k5, mdO_g6, mdO_k6, mdO_g7, mdO_k7, mdO_g8, mdO_k8, mdO_g9, mdO_k9, mdO_g10, mdO_k10, mdO_g11, mdO_k11, mdO_g12, mdO_k12, mdO_g13, mdO_k13, mdO_g14, mdO_k14, mdO_g15, mdO_k15, mdO_g16, mdO_k16, mdO_g17, mdO_k17, mdO_g18, mdO_k18, mdO_g19, mdO_k19, mdO_g20, mdO_k20, mdO_g21, mdO_k21, mdO_g22, mdO_k22, mdO_g23, mdO_k23, mdO_g24, mdO_k24, mdO_g25, mdO_k25, mdO_g26, mdO_k26, mdO_g27, mdO_k27, mdO_g28, mdO_k28, mdO_g29, mdO_k29, mdO_g30, mdO_k30, mdO_g31, mdO_k31, mdO_g32, mdO_k32, mdO_g33, mdO_k33, mdO_g34, mdO_k34, mdO_g35, mdO_k35, mdO_s0, mdO_s5, mdO_s6, mdO_s7, mdO_s8, mdO_s9, mdO_s10, mdO_s11, mdO_s12, mdO_s13, mdO_s14, mdO_s15, mdO_s19, mdO_s20, mdO_s25, mdO_s26, mdO_s31, mdO_s32, md_1, md_2, md_g71, md_g72, md_g73, md_g74, md_g75, md_g76, md_g77, md_g78, md_g79, md_g80, md_g81, md_g82, md_g83, md_g84, md_g85, md_g86, md_g87, md_g88, md_g89, md_out, md_u71, md_u72, md_u73, md_u74, md_u75, md_u76, md_u77, md_u78, md_u79, md_u80, md_u81, md_u82, md_u83, md_u84, md_u85, md_u86, md_u87, md_u88, md_u89, md_uo, iup_s, iup_n, aup_s, aup_n, ne_eq, not_false_eq_true, sh_0, sh_1, sh_2, sh_3, sh_4, sh_5, sh_8, sh_15, sh_16, sh_24, Int.reducePow, Int.cast_ofNat_Int, w_of, wl_of, ltT, ltF, leT, leF, eqT, eqF, okF_0, okF_s, gF_0, gF_s, consC_o, sF_0, sF_s, clsO_o, inA_i, ldA_i, stA_i, inJ_l, ldJ_l, stJ_l, inR_r, ldR_r, stR_r, tgR_r, lenA_i, lenA_l, lenA_r, lenA_ex, nl_i, nl_o, nl_l, nl_n, wd_n, wd_i, wd_l, wd_o, fit_i, fit_l, fit_o, K_v, K_n, true_and, and_true, Nat.reduceAdd, Nat.reduceLeDiff, Nat.reduceEqDiff, Nat.reduceMul, Nat.reduceLT, reduceIte, true_or, or_true, cmp_lt, cmp_gt, cmp_eq, wb_0, b_01, cmp_lt', cmp_gt', cmp_eq', b_0, b_1, wb_1, Int.reduceSub, Int.reduceToNat, List.getD_cons_succ, List.getD_cons_zero, Int.reduceLE, Int.reduceLT, Int.reduceEq, Int.reduceNeg, Int.reduceAdd, Int.reduceMul, and_self, em_b, ne_eq, not_false_eq_true, not_true_eq_false]
          · simp (disch := omega) only [e_246_0, e_246_1, e_246_4, e_246_6, e_246_7, e_246_8, e_246_9, e_246_10, e_246_11, e_246_13, e_246_15, e_246_16, e_246_19, e_246_20, e_246_22, e_246_25, e_246_28, e_246_29, e_246_30, e_246_31, e_246_33, e_246_36, e_246_38, e_246_39, e_246_41, e_246_43, e_246_44, e_246_47, e_246_48, e_246_49, e_246_52, e_246_53, e_246_56, e_246_57, e_246_60, e_246_61, e_246_62, e_246_65, e_246_67, e_246_68, e_246_70, e_246_73, e_246_74, e_246_76, e_246_77, e_246_79, e_246_82, e_246_85, e_246_86, e_246_87, e_246_88, e_246_90, e_246_93, e_246_95, e_246_98, e_246_99, e_246_101, e_246_104, e_246_107, e_246_109, e_246_111, e_246_114, e_246_117, e_246_119, e_246_121, e_246_124, e_246_126, e_246_129, e_246_131, e_246_132, e_246_133, e1, h80, up1, fn1, hn, mdO_c, mdO_g0, mdO_k0, mdO_g1, mdO_k1, mdO_g2, mdO_k2, mdO_g3, mdO_k3, mdO_g4, mdO_k4, mdO_g5, mdO_k5, mdO_g6, mdO_k6, mdO_g7, mdO_k7, mdO_g8, mdO_k8, mdO_g9, mdO_k9, mdO_g10, mdO_k10, mdO_g11, mdO_k11, mdO_g12, mdO_k12, mdO_g13, mdO_k13, mdO_g14, mdO_k14, mdO_g15, mdO_k15, mdO_g16, mdO_k16, mdO_g17, mdO_k17, mdO_g18, mdO_k18, mdO_g19, mdO_k19, mdO_g20, mdO_k20, mdO_g21, mdO_k21, mdO_g22, mdO_k22, mdO_g23, mdO_k23, mdO_g24, mdO_k24, mdO_g25, mdO_k25, mdO_g26, mdO_k26, mdO_g27, mdO_k27, mdO_g28, mdO_k28, mdO_g29, mdO_k29, mdO_g30, mdO_k30, mdO_g31, mdO_k31, mdO_g32, mdO_k32, mdO_g33, mdO_k33, mdO_g34, mdO_k34, mdO_g35, mdO_k35, mdO_s0, mdO_s5, mdO_s6, mdO_s7, mdO_s8, mdO_s9, mdO_s10, mdO_s11, mdO_s12, mdO_s13, mdO_s14, mdO_s15, mdO_s19, mdO_s20, mdO_s25, mdO_s26, mdO_s31, mdO_s32, md_1, md_2, md_g71, md_g72, md_g73, md_g74, md_g75, md_g76, md_g77, md_g78, md_g79, md_g80, md_g81, md_g82, md_g83, md_g84, md_g85, md_g86, md_g87, md_g88, md_g89, md_out, md_u71, md_u72, md_u73, md_u74, md_u75, md_u76, md_u77, md_u78, md_u79, md_u80, md_u81, md_u82, md_u83, md_u84, md_u85, md_u86, md_u87, md_u88, md_u89, md_uo, iup_s, iup_n, aup_s, aup_n, ne_eq, not_false_eq_true, sh_0, sh_1, sh_2, sh_3, sh_4, sh_5, sh_8, sh_15, sh_16, sh_24, Int.reducePow, Int.cast_ofNat_Int, w_of, wl_of, ltT, ltF, leT, leF, eqT, eqF, okF_0, okF_s, gF_0, gF_s, consC_o, sF_0, sF_s, clsO_o, inA_i, ldA_i, stA_i, inJ_l, ldJ_l, stJ_l, inR_r, ldR_r, stR_r, tgR_r, lenA_i, lenA_l, lenA_r, lenA_ex, nl_i, nl_o, nl_l, nl_n, wd_n, wd_i, wd_l, wd_o, fit_i, fit_l, fit_o, K_v, K_n, true_and, and_true, Nat.reduceAdd, Nat.reduceLeDiff, Nat.reduceEqDiff, Nat.reduceMul, Nat.reduceLT, reduceIte, true_or, or_true, cmp_lt, cmp_gt, cmp_eq, wb_0, b_01, cmp_lt', cmp_gt', cmp_eq', b_0, b_1, wb_1, Int.reduceSub, Int.reduceToNat, List.getD_cons_succ, List.getD_cons_zero, Int.reduceLE, Int.reduceLT, Int.reduceEq, Int.reduceNeg, Int.reduceAdd, Int.reduceMul, and_self, em_b, ne_eq, not_false_eq_true, not_true_eq_false]
        · rw [if_neg hF]
          rcases Nat.eq_zero_or_pos (kN c) with q | q
          · simp (disch := omega) only [e_246_0, e_246_1, e_246_4, e_246_6, e_246_7, e_246_8, e_246_9, e_246_10, e_246_11, e_246_13, e_246_15, e_246_16, e_246_19, e_246_20, e_246_22, e_246_25, e_246_28, e_246_29, e_246_30, e_246_31, e_246_33, e_246_36, e_246_38, e_246_39, e_246_41, e_246_43, e_246_44, e_246_47, e_246_48, e_246_49, e_246_52, e_246_53, e_246_56, e_246_57, e_246_60, e_246_61, e_246_62, e_246_65, e_246_67, e_246_68, e_246_70, e_246_73, e_246_74, e_246_76, e_246_77, e_246_79, e_246_82, e_246_85, e_246_86, e_246_87, e_246_88, e_246_90, e_246_93, e_246_95, e_246_98, e_246_99, e_246_101, e_246_104, e_246_107, e_246_109, e_246_111, e_246_114, e_246_117, e_246_119, e_246_121, e_246_124, e_246_126, e_246_129, e_246_131, e_246_132, e_246_133, e1, h80, up1, fn1, hn, mdO_c, mdO_g0, mdO_k0, mdO_g1, mdO_k1, mdO_g2, mdO_k2, mdO_g3, mdO_k3, mdO_g4, mdO_k4, mdO_g5, mdO_k5, mdO_g6, mdO_k6, mdO_g7, mdO_k7, mdO_g8, mdO_k8, mdO_g9, mdO_k9, mdO_g10, mdO_k10, mdO_g11, mdO_k11, mdO_g12, mdO_k12, mdO_g13, mdO_k13, mdO_g14, mdO_k14, mdO_g15, mdO_k15, mdO_g16, mdO_k16, mdO_g17, mdO_k17, mdO_g18, mdO_k18, mdO_g19, mdO_k19, mdO_g20, mdO_k20, mdO_g21, mdO_k21, mdO_g22, mdO_k22, mdO_g23, mdO_k23, mdO_g24, mdO_k24, mdO_g25, mdO_k25, mdO_g26, mdO_k26, mdO_g27, mdO_k27, mdO_g28, mdO_k28, mdO_g29, mdO_k29, mdO_g30, mdO_k30, mdO_g31, mdO_k31, mdO_g32, mdO_k32, mdO_g33, mdO_k33, mdO_g34, mdO_k34, mdO_g35, mdO_k35, mdO_s0, mdO_s5, mdO_s6, mdO_s7, mdO_s8, mdO_s9, mdO_s10, mdO_s11, mdO_s12, mdO_s13, mdO_s14, mdO_s15, mdO_s19, mdO_s20, mdO_s25, mdO_s26, mdO_s31, mdO_s32, md_1, md_2, md_g71, md_g72, md_g73, md_g74, md_g75, md_g76, md_g77, md_g78, md_g79, md_g80, md_g81, md_g82, md_g83, md_g84, md_g85, md_g86, md_g87, md_g88, md_g89, md_out, md_u71, md_u72, md_u73, md_u74, md_u75, md_u76, md_u77, md_u78, md_u79, md_u80, md_u81, md_u82, md_u83, md_u84, md_u85, md_u86, md_u87, md_u88, md_u89, md_uo, iup_s, iup_n, aup_s, aup_n, ne_eq, not_false_eq_true, sh_0, sh_1, sh_2, sh_3, sh_4, sh_5, sh_8, sh_15, sh_16, sh_24, Int.reducePow, Int.cast_ofNat_Int, w_of, wl_of, ltT, ltF, leT, leF, eqT, eqF, okF_0, okF_s, gF_0, gF_s, consC_o, sF_0, sF_s, clsO_o, inA_i, ldA_i, stA_i, inJ_l, ldJ_l, stJ_l, inR_r, ldR_r, stR_r, tgR_r, lenA_i, lenA_l, lenA_r, lenA_ex, nl_i, nl_o, nl_l, nl_n, wd_n, wd_i, wd_l, wd_o, fit_i, fit_l, fit_o, K_v, K_n, true_and, and_true, Nat.reduceAdd, Nat.reduceLeDiff, Nat.reduceEqDiff, Nat.reduceMul, Nat.reduceLT, reduceIte, true_or, or_true, cmp_lt, cmp_gt, cmp_eq, wb_0, b_01, cmp_lt', cmp_gt', cmp_eq', b_0, b_1, wb_1, Int.reduceSub, Int.reduceToNat, List.getD_cons_succ, List.getD_cons_zero, Int.reduceLE, Int.reduceLT, Int.reduceEq, Int.reduceNeg, Int.reduceAdd, Int.reduceMul, and_self, em_b, ne_eq, not_false_eq_true, not_true_eq_false]
          · simp (disch := omega) only [e_246_0, e_246_1, e_246_4, e_246_6, e_246_7, e_246_8, e_246_9, e_246_10, e_246_11, e_246_13, e_246_15, e_246_16, e_246_19, e_246_20, e_246_22, e_246_25, e_246_28, e_246_29, e_246_30, e_246_31, e_246_33, e_246_36, e_246_38, e_246_39, e_246_41, e_246_43, e_246_44, e_246_47, e_246_48, e_246_49, e_246_52, e_246_53, e_246_56, e_246_57, e_246_60, e_246_61, e_246_62, e_246_65, e_246_67, e_246_68, e_246_70, e_246_73, e_246_74, e_246_76, e_246_77, e_246_79, e_246_82, e_246_85, e_246_86, e_246_87, e_246_88, e_246_90, e_246_93, e_246_95, e_246_98, e_246_99, e_246_101, e_246_104, e_246_107, e_246_109, e_246_111, e_246_114, e_246_117, e_246_119, e_246_121, e_246_124, e_246_126, e_246_129, e_246_131, e_246_132, e_246_133, e1, h80, up1, fn1, hn, mdO_c, mdO_g0, mdO_k0, mdO_g1, mdO_k1, mdO_g2, mdO_k2, mdO_g3, mdO_k3, mdO_g4, mdO_k4, mdO_g5, mdO_k5, mdO_g6, mdO_k6, mdO_g7, mdO_k7, mdO_g8, mdO_k8, mdO_g9, mdO_k9, mdO_g10, mdO_k10, mdO_g11, mdO_k11, mdO_g12, mdO_k12, mdO_g13, mdO_k13, mdO_g14, mdO_k14, mdO_g15, mdO_k15, mdO_g16, mdO_k16, mdO_g17, mdO_k17, mdO_g18, mdO_k18, mdO_g19, mdO_k19, mdO_g20, mdO_k20, mdO_g21, mdO_k21, mdO_g22, mdO_k22, mdO_g23, mdO_k23, mdO_g24, mdO_k24, mdO_g25, mdO_k25, mdO_g26, mdO_k26, mdO_g27, mdO_k27, mdO_g28, mdO_k28, mdO_g29, mdO_k29, mdO_g30, mdO_k30, mdO_g31, mdO_k31, mdO_g32, mdO_k32, mdO_g33, mdO_k33, mdO_g34, mdO_k34, mdO_g35, mdO_k35, mdO_s0, mdO_s5, mdO_s6, mdO_s7, mdO_s8, mdO_s9, mdO_s10, mdO_s11, mdO_s12, mdO_s13, mdO_s14, mdO_s15, mdO_s19, mdO_s20, mdO_s25, mdO_s26, mdO_s31, mdO_s32, md_1, md_2, md_g71, md_g72, md_g73, md_g74, md_g75, md_g76, md_g77, md_g78, md_g79, md_g80, md_g81, md_g82, md_g83, md_g84, md_g85, md_g86, md_g87, md_g88, md_g89, md_out, md_u71, md_u72, md_u73, md_u74, md_u75, md_u76, md_u77, md_u78, md_u79, md_u80, md_u81, md_u82, md_u83, md_u84, md_u85, md_u86, md_u87, md_u88, md_u89, md_uo, iup_s, iup_n, aup_s, aup_n, ne_eq, not_false_eq_true, sh_0, sh_1, sh_2, sh_3, sh_4, sh_5, sh_8, sh_15, sh_16, sh_24, Int.reducePow, Int.cast_ofNat_Int, w_of, wl_of, ltT, ltF, leT, leF, eqT, eqF, okF_0, okF_s, gF_0, gF_s, consC_o, sF_0, sF_s, clsO_o, inA_i, ldA_i, stA_i, inJ_l, ldJ_l, stJ_l, inR_r, ldR_r, stR_r, tgR_r, lenA_i, lenA_l, lenA_r, lenA_ex, nl_i, nl_o, nl_l, nl_n, wd_n, wd_i, wd_l, wd_o, fit_i, fit_l, fit_o, K_v, K_n, true_and, and_true, Nat.reduceAdd, Nat.reduceLeDiff, Nat.reduceEqDiff, Nat.reduceMul, Nat.reduceLT, reduceIte, true_or, or_true, cmp_lt, cmp_gt, cmp_eq, wb_0, b_01, cmp_lt', cmp_gt', cmp_eq', b_0, b_1, wb_1, Int.reduceSub, Int.reduceToNat, List.getD_cons_succ, List.getD_cons_zero, Int.reduceLE, Int.reduceLT, Int.reduceEq, Int.reduceNeg, Int.reduceAdd, Int.reduceMul, and_self, em_b, ne_eq, not_false_eq_true, not_true_eq_false]
      | true =>
        have hw' := hw rfl
        simp only [if_true]
        have lp : ∀ r p : Nat, p + r = kN c → upsTo c y p = true → ∀ l7, WP (d + 3) 246 41 [some (vr 71), some (vi k), some (vi m), some (vi 1), some (vi t), some (vi (lst (fnw i A) y p)), some (vi p), l7] [] (mdH h i A) Q = Q (some (vi (if upsTo c y (kN c) = true then (if lst (fnw i A) y (kN c) = 268435456 then 268435456 else lst (fnw i A) y (kN c) + 1) else -1))) (mdH h i A) := by
          intro r
          induction r with
          | zero =>
            intro p hp hu l7
            have hp' : p = kN c := by omega
            subst hp'
            rw [hu]
            simp only [if_true]
            have hb := lst_b (n := kN c) hL.1 hB hym hw'
            by_cases hF : lst (fnw i A) y (kN c) = 268435456
            · rw [if_pos hF]
              rw [e_246_41]
              simp (disch := omega) only [e_246_43, e_246_44, e_246_47, e_246_48, e_246_49, e_246_117, e_246_119, e_246_121, e_246_124, e_246_126, e_246_129, e_246_131, e_246_132, e_246_133, hn, mdO_c, mdO_g0, mdO_k0, mdO_g1, mdO_k1, mdO_g2, mdO_k2, mdO_g3, mdO_k3, mdO_g4, mdO_k4, mdO_g5, mdO_k5, mdO_g6, mdO_k6, mdO_g7, mdO_k7, mdO_g8, mdO_k8, mdO_g9, mdO_k9, mdO_g10, mdO_k10, mdO_g11, mdO_k11, mdO_g12, mdO_k12, mdO_g13, mdO_k13, mdO_g14, mdO_k14, mdO_g15, mdO_k15, mdO_g16, mdO_k16, mdO_g17, mdO_k17, mdO_g18, mdO_k18, mdO_g19, mdO_k19, mdO_g20, mdO_k20, mdO_g21, mdO_k21, mdO_g22, mdO_k22, mdO_g23, mdO_k23, mdO_g24, mdO_k24, mdO_g25, mdO_k25, mdO_g26, mdO_k26, mdO_g27, mdO_k27, mdO_g28, mdO_k28, mdO_g29, mdO_k29, mdO_g30, mdO_k30, mdO_g31, mdO_k31, mdO_g32, mdO_k32, mdO_g33, mdO_k33, mdO_g34, mdO_k34, mdO_g35, mdO_k35, mdO_s0, mdO_s5, mdO_s6, mdO_s7, mdO_s8, mdO_s9, mdO_s10, mdO_s11, mdO_s12, mdO_s13, mdO_s14, mdO_s15, mdO_s19, mdO_s20, mdO_s25, mdO_s26, mdO_s31, mdO_s32, md_1, md_2, md_g71, md_g72, md_g73, md_g74, md_g75, md_g76, md_g77, md_g78, md_g79, md_g80, md_g81, md_g82, md_g83, md_g84, md_g85, md_g86, md_g87, md_g88, md_g89, md_out, md_u71, md_u72, md_u73, md_u74, md_u75, md_u76, md_u77, md_u78, md_u79, md_u80, md_u81, md_u82, md_u83, md_u84, md_u85, md_u86, md_u87, md_u88, md_u89, md_uo, iup_s, iup_n, aup_s, aup_n, ne_eq, not_false_eq_true, sh_0, sh_1, sh_2, sh_3, sh_4, sh_5, sh_8, sh_15, sh_16, sh_24, Int.reducePow, Int.cast_ofNat_Int, w_of, wl_of, ltT, ltF, leT, leF, eqT, eqF, okF_0, okF_s, gF_0, gF_s, consC_o, sF_0, sF_s, clsO_o, inA_i, ldA_i, stA_i, inJ_l, ldJ_l, stJ_l, inR_r, ldR_r, stR_r, tgR_r, lenA_i, lenA_l, lenA_r, lenA_ex, nl_i, nl_o, nl_l, nl_n, wd_n, wd_i, wd_l, wd_o, fit_i, fit_l, fit_o, K_v, K_n, true_and, and_true, Nat.reduceAdd, Nat.reduceLeDiff, Nat.reduceEqDiff, Nat.reduceMul, Nat.reduceLT, reduceIte, true_or, or_true, cmp_lt, cmp_gt, cmp_eq, wb_0, b_01, cmp_lt', cmp_gt', cmp_eq', b_0, b_1, wb_1, Int.reduceSub, Int.reduceToNat, List.getD_cons_succ, List.getD_cons_zero, Int.reduceLE, Int.reduceLT, Int.reduceEq, Int.reduceNeg, Int.reduceAdd, Int.reduceMul, and_self, em_b, ne_eq, not_false_eq_true, not_true_eq_false]
            · rw [if_neg hF]
              rw [e_246_41]
              simp (disch := omega) only [e_246_43, e_246_44, e_246_47, e_246_48, e_246_49, e_246_117, e_246_119, e_246_121, e_246_124, e_246_126, e_246_129, e_246_131, e_246_132, e_246_133, hn, mdO_c, mdO_g0, mdO_k0, mdO_g1, mdO_k1, mdO_g2, mdO_k2, mdO_g3, mdO_k3, mdO_g4, mdO_k4, mdO_g5, mdO_k5, mdO_g6, mdO_k6, mdO_g7, mdO_k7, mdO_g8, mdO_k8, mdO_g9, mdO_k9, mdO_g10, mdO_k10, mdO_g11, mdO_k11, mdO_g12, mdO_k12, mdO_g13, mdO_k13, mdO_g14, mdO_k14, mdO_g15, mdO_k15, mdO_g16, mdO_k16, mdO_g17, mdO_k17, mdO_g18, mdO_k18, mdO_g19, mdO_k19, mdO_g20, mdO_k20, mdO_g21, mdO_k21, mdO_g22, mdO_k22, mdO_g23, mdO_k23, mdO_g24, mdO_k24, mdO_g25, mdO_k25, mdO_g26, mdO_k26, mdO_g27, mdO_k27, mdO_g28, mdO_k28, mdO_g29, mdO_k29, mdO_g30, mdO_k30, mdO_g31, mdO_k31, mdO_g32, mdO_k32, mdO_g33, mdO_k33, mdO_g34, mdO_k34, mdO_g35, mdO_k35, mdO_s0, mdO_s5, mdO_s6, mdO_s7, mdO_s8, mdO_s9, mdO_s10, mdO_s11, mdO_s12, mdO_s13, mdO_s14, mdO_s15, mdO_s19, mdO_s20, mdO_s25, mdO_s26, mdO_s31, mdO_s32, md_1, md_2, md_g71, md_g72, md_g73, md_g74, md_g75, md_g76, md_g77, md_g78, md_g79, md_g80, md_g81, md_g82, md_g83, md_g84, md_g85, md_g86, md_g87, md_g88, md_g89, md_out, md_u71, md_u72, md_u73, md_u74, md_u75, md_u76, md_u77, md_u78, md_u79, md_u80, md_u81, md_u82, md_u83, md_u84, md_u85, md_u86, md_u87, md_u88, md_u89, md_uo, iup_s, iup_n, aup_s, aup_n, ne_eq, not_false_eq_true, sh_0, sh_1, sh_2, sh_3, sh_4, sh_5, sh_8, sh_15, sh_16, sh_24, Int.reducePow, Int.cast_ofNat_Int, w_of, wl_of, ltT, ltF, leT, leF, eqT, eqF, okF_0, okF_s, gF_0, gF_s, consC_o, sF_0, sF_s, clsO_o, inA_i, ldA_i, stA_i, inJ_l, ldJ_l, stJ_l, inR_r, ldR_r, stR_r, tgR_r, lenA_i, lenA_l, lenA_r, lenA_ex, nl_i, nl_o, nl_l, nl_n, wd_n, wd_i, wd_l, wd_o, fit_i, fit_l, fit_o, K_v, K_n, true_and, and_true, Nat.reduceAdd, Nat.reduceLeDiff, Nat.reduceEqDiff, Nat.reduceMul, Nat.reduceLT, reduceIte, true_or, or_true, cmp_lt, cmp_gt, cmp_eq, wb_0, b_01, cmp_lt', cmp_gt', cmp_eq', b_0, b_1, wb_1, Int.reduceSub, Int.reduceToNat, List.getD_cons_succ, List.getD_cons_zero, Int.reduceLE, Int.reduceLT, Int.reduceEq, Int.reduceNeg, Int.reduceAdd, Int.reduceMul, and_self, em_b, ne_eq, not_false_eq_true, not_true_eq_false]
          | succ r ih =>
            intro p hp hu l7
            have hpn : p < kN c := by omega
            obtain ⟨q, hq⟩ := List.getElem?_of_mem (hw' p hpn)
            have hql := (List.getElem?_eq_some_iff.mp hq).1
            have h82 := (hL.1.2.2.1 q _ hq).2
            have wk := fun (d : Nat) (Q : PQ) => r_weaker (d := d) (h := h) (i := i) (A := A) (Q := Q) hK hR hy (show p < 4 by omega)
            have up2 := fun (d : Nat) (Q : PQ) => r_isUp (d := d) (h := h) (Q := Q) hK hR hL.1 hq
            have fn2 := fun (d : Nat) (Q : PQ) => r_farNow (d := d) (h := h) (Q := Q) hB hql hlen
            simp only [← fnw_at hL.1 hq] at fn2
            have hwl := (encR_lt (okS_R hK (weakS_ok hy hpn))).2
            have b1 := fnw_b hL.1 hB (hw' p hpn)
            have b2 := lst_b (n := p) hL.1 hB hym (fun p' hp' => hw' p' (by omega))
            by_cases hdp : downB c (weakS y p) = true
            · have hun : upsTo c y (kN c) = false := by
                cases hz : upsTo c y (kN c) with
                | false => rfl
                | true => have := (upsTo_iff.mp hz).2 p hpn; rw [hdp] at this; cases this
              simp only [hdp, if_true] at up2
              simp only [hun, if_false, Bool.false_eq_true]
              rw [e_246_41]
              simp (disch := omega) only [e_246_43, e_246_44, e_246_47, e_246_48, e_246_49, e_246_52, e_246_53, e_246_56, e_246_57, e_246_60, e_246_61, e_246_62, e_246_65, e_246_67, e_246_68, e_246_70, e_246_73, e_246_74, e_246_76, e_246_77, e_246_79, e_246_82, e_246_85, e_246_86, hn, h79, wk, h82, up2, mdO_c, mdO_g0, mdO_k0, mdO_g1, mdO_k1, mdO_g2, mdO_k2, mdO_g3, mdO_k3, mdO_g4, mdO_k4, mdO_g5, mdO_k5, mdO_g6, mdO_k6, mdO_g7, mdO_k7, mdO_g8, mdO_k8, mdO_g9, mdO_k9, mdO_g10, mdO_k10, mdO_g11, mdO_k11, mdO_g12, mdO_k12, mdO_g13, mdO_k13, mdO_g14, mdO_k14, mdO_g15, mdO_k15, mdO_g16, mdO_k16, mdO_g17, mdO_k17, mdO_g18, mdO_k18, mdO_g19, mdO_k19, mdO_g20, mdO_k20, mdO_g21, mdO_k21, mdO_g22, mdO_k22, mdO_g23, mdO_k23, mdO_g24, mdO_k24, mdO_g25, mdO_k25, mdO_g26, mdO_k26, mdO_g27, mdO_k27, mdO_g28, mdO_k28, mdO_g29, mdO_k29, mdO_g30, mdO_k30, mdO_g31, mdO_k31, mdO_g32, mdO_k32, mdO_g33, mdO_k33, mdO_g34, mdO_k34, mdO_g35, mdO_k35, mdO_s0, mdO_s5, mdO_s6, mdO_s7, mdO_s8, mdO_s9, mdO_s10, mdO_s11, mdO_s12, mdO_s13, mdO_s14, mdO_s15, mdO_s19, mdO_s20, mdO_s25, mdO_s26, mdO_s31, mdO_s32, md_1, md_2, md_g71, md_g72, md_g73, md_g74, md_g75, md_g76, md_g77, md_g78, md_g79, md_g80, md_g81, md_g82, md_g83, md_g84, md_g85, md_g86, md_g87, md_g88, md_g89, md_out, md_u71, md_u72, md_u73, md_u74, md_u75, md_u76, md_u77, md_u78, md_u79, md_u80, md_u81, md_u82, md_u83, md_u84, md_u85, md_u86, md_u87, md_u88, md_u89, md_uo, iup_s, iup_n, aup_s, aup_n, ne_eq, not_false_eq_true, sh_0, sh_1, sh_2, sh_3, sh_4, sh_5, sh_8, sh_15, sh_16, sh_24, Int.reducePow, Int.cast_ofNat_Int, w_of, wl_of, ltT, ltF, leT, leF, eqT, eqF, okF_0, okF_s, gF_0, gF_s, consC_o, sF_0, sF_s, clsO_o, inA_i, ldA_i, stA_i, inJ_l, ldJ_l, stJ_l, inR_r, ldR_r, stR_r, tgR_r, lenA_i, lenA_l, lenA_r, lenA_ex, nl_i, nl_o, nl_l, nl_n, wd_n, wd_i, wd_l, wd_o, fit_i, fit_l, fit_o, K_v, K_n, true_and, and_true, Nat.reduceAdd, Nat.reduceLeDiff, Nat.reduceEqDiff, Nat.reduceMul, Nat.reduceLT, reduceIte, true_or, or_true, cmp_lt, cmp_gt, cmp_eq, wb_0, b_01, cmp_lt', cmp_gt', cmp_eq', b_0, b_1, wb_1, Int.reduceSub, Int.reduceToNat, List.getD_cons_succ, List.getD_cons_zero, Int.reduceLE, Int.reduceLT, Int.reduceEq, Int.reduceNeg, Int.reduceAdd, Int.reduceMul, and_self, em_b, ne_eq, not_false_eq_true, not_true_eq_false]
            · have hdp' : downB c (weakS y p) = false := by simpa using hdp
              simp only [hdp', if_false, Bool.false_eq_true] at up2
              have hu1 : upsTo c y (p + 1) = true := by show (upsTo c y p && !downB c (weakS y p)) = true; rw [hu, hdp']; rfl
              have e3 : lst (fnw i A) y (p + 1) = if fnw i A (weakS y p) < lst (fnw i A) y p then fnw i A (weakS y p) else lst (fnw i A) y p := rfl
              rw [← ih (p + 1) (by omega) hu1 (some (vi q)), e3]
              by_cases hF : fnw i A (weakS y p) < lst (fnw i A) y p
              · rw [if_pos hF]
                rw [e_246_41]
                simp (disch := omega) only [e_246_43, e_246_44, e_246_47, e_246_48, e_246_49, e_246_52, e_246_53, e_246_56, e_246_57, e_246_60, e_246_61, e_246_62, e_246_65, e_246_67, e_246_68, e_246_70, e_246_73, e_246_74, e_246_76, e_246_77, e_246_79, e_246_82, e_246_85, e_246_86, e_246_87, e_246_88, e_246_90, e_246_93, e_246_95, e_246_98, e_246_99, e_246_101, e_246_104, e_246_107, e_246_109, e_246_111, e_246_114, hn, h79, wk, h82, up2, fn2, mdO_c, mdO_g0, mdO_k0, mdO_g1, mdO_k1, mdO_g2, mdO_k2, mdO_g3, mdO_k3, mdO_g4, mdO_k4, mdO_g5, mdO_k5, mdO_g6, mdO_k6, mdO_g7, mdO_k7, mdO_g8, mdO_k8, mdO_g9, mdO_k9, mdO_g10, mdO_k10, mdO_g11, mdO_k11, mdO_g12, mdO_k12, mdO_g13, mdO_k13, mdO_g14, mdO_k14, mdO_g15, mdO_k15, mdO_g16, mdO_k16, mdO_g17, mdO_k17, mdO_g18, mdO_k18, mdO_g19, mdO_k19, mdO_g20, mdO_k20, mdO_g21, mdO_k21, mdO_g22, mdO_k22, mdO_g23, mdO_k23, mdO_g24, mdO_k24, mdO_g25, mdO_k25, mdO_g26, mdO_k26, mdO_g27, mdO_k27, mdO_g28, mdO_k28, mdO_g29, mdO_k29, mdO_g30, mdO_k30, mdO_g31, mdO_k31, mdO_g32, mdO_k32, mdO_g33, mdO_k33, mdO_g34, mdO_k34, mdO_g35, mdO_k35, mdO_s0, mdO_s5, mdO_s6, mdO_s7, mdO_s8, mdO_s9, mdO_s10, mdO_s11, mdO_s12, mdO_s13, mdO_s14, mdO_s15, mdO_s19, mdO_s20, mdO_s25, mdO_s26, mdO_s31, mdO_s32, md_1, md_2, md_g71, md_g72, md_g73, md_g74, md_g75, md_g76, md_g77, md_g78, md_g79, md_g80, md_g81, md_g82, md_g83, md_g84, md_g85, md_g86, md_g87, md_g88, md_g89, md_out, md_u71, md_u72, md_u73, md_u74, md_u75, md_u76, md_u77, md_u78, md_u79, md_u80, md_u81, md_u82, md_u83, md_u84, md_u85, md_u86, md_u87, md_u88, md_u89, md_uo, iup_s, iup_n, aup_s, aup_n, ne_eq, not_false_eq_true, sh_0, sh_1, sh_2, sh_3, sh_4, sh_5, sh_8, sh_15, sh_16, sh_24, Int.reducePow, Int.cast_ofNat_Int, w_of, wl_of, ltT, ltF, leT, leF, eqT, eqF, okF_0, okF_s, gF_0, gF_s, consC_o, sF_0, sF_s, clsO_o, inA_i, ldA_i, stA_i, inJ_l, ldJ_l, stJ_l, inR_r, ldR_r, stR_r, tgR_r, lenA_i, lenA_l, lenA_r, lenA_ex, nl_i, nl_o, nl_l, nl_n, wd_n, wd_i, wd_l, wd_o, fit_i, fit_l, fit_o, K_v, K_n, true_and, and_true, Nat.reduceAdd, Nat.reduceLeDiff, Nat.reduceEqDiff, Nat.reduceMul, Nat.reduceLT, reduceIte, true_or, or_true, cmp_lt, cmp_gt, cmp_eq, wb_0, b_01, cmp_lt', cmp_gt', cmp_eq', b_0, b_1, wb_1, Int.reduceSub, Int.reduceToNat, List.getD_cons_succ, List.getD_cons_zero, Int.reduceLE, Int.reduceLT, Int.reduceEq, Int.reduceNeg, Int.reduceAdd, Int.reduceMul, and_self, em_b, ne_eq, not_false_eq_true, not_true_eq_false]
                try rfl
              · rw [if_neg hF]
                rw [e_246_41]
                simp (disch := omega) only [e_246_43, e_246_44, e_246_47, e_246_48, e_246_49, e_246_52, e_246_53, e_246_56, e_246_57, e_246_60, e_246_61, e_246_62, e_246_65, e_246_67, e_246_68, e_246_70, e_246_73, e_246_74, e_246_76, e_246_77, e_246_79, e_246_82, e_246_85, e_246_86, e_246_87, e_246_88, e_246_90, e_246_93, e_246_95, e_246_98, e_246_99, e_246_101, e_246_104, e_246_107, e_246_109, e_246_111, e_246_114, hn, h79, wk, h82, up2, fn2, mdO_c, mdO_g0, mdO_k0, mdO_g1, mdO_k1, mdO_g2, mdO_k2, mdO_g3, mdO_k3, mdO_g4, mdO_k4, mdO_g5, mdO_k5, mdO_g6, mdO_k6, mdO_g7, mdO_k7, mdO_g8, mdO_k8, mdO_g9, mdO_k9, mdO_g10, mdO_k10, mdO_g11, mdO_k11, mdO_g12, mdO_k12, mdO_g13, mdO_k13, mdO_g14, mdO_k14, mdO_g15, mdO_k15, mdO_g16, mdO_k16, mdO_g17, mdO_k17, mdO_g18, mdO_k18, mdO_g19, mdO_k19, mdO_g20, mdO_k20, mdO_g21, mdO_k21, mdO_g22, mdO_k22, mdO_g23, mdO_k23, mdO_g24, mdO_k24, mdO_g25, mdO_k25, mdO_g26, mdO_k26, mdO_g27, mdO_k27, mdO_g28, mdO_k28, mdO_g29, mdO_k29, mdO_g30, mdO_k30, mdO_g31, mdO_k31, mdO_g32, mdO_k32, mdO_g33, mdO_k33, mdO_g34, mdO_k34, mdO_g35, mdO_k35, mdO_s0, mdO_s5, mdO_s6, mdO_s7, mdO_s8, mdO_s9, mdO_s10, mdO_s11, mdO_s12, mdO_s13, mdO_s14, mdO_s15, mdO_s19, mdO_s20, mdO_s25, mdO_s26, mdO_s31, mdO_s32, md_1, md_2, md_g71, md_g72, md_g73, md_g74, md_g75, md_g76, md_g77, md_g78, md_g79, md_g80, md_g81, md_g82, md_g83, md_g84, md_g85, md_g86, md_g87, md_g88, md_g89, md_out, md_u71, md_u72, md_u73, md_u74, md_u75, md_u76, md_u77, md_u78, md_u79, md_u80, md_u81, md_u82, md_u83, md_u84, md_u85, md_u86, md_u87, md_u88, md_u89, md_uo, iup_s, iup_n, aup_s, aup_n, ne_eq, not_false_eq_true, sh_0, sh_1, sh_2, sh_3, sh_4, sh_5, sh_8, sh_15, sh_16, sh_24, Int.reducePow, Int.cast_ofNat_Int, w_of, wl_of, ltT, ltF, leT, leF, eqT, eqF, okF_0, okF_s, gF_0, gF_s, consC_o, sF_0, sF_s, clsO_o, inA_i, ldA_i, stA_i, inJ_l, ldJ_l, stJ_l, inR_r, ldR_r, stR_r, tgR_r, lenA_i, lenA_l, lenA_r, lenA_ex, nl_i, nl_o, nl_l, nl_n, wd_n, wd_i, wd_l, wd_o, fit_i, fit_l, fit_o, K_v, K_n, true_and, and_true, Nat.reduceAdd, Nat.reduceLeDiff, Nat.reduceEqDiff, Nat.reduceMul, Nat.reduceLT, reduceIte, true_or, or_true, cmp_lt, cmp_gt, cmp_eq, wb_0, b_01, cmp_lt', cmp_gt', cmp_eq', b_0, b_1, wb_1, Int.reduceSub, Int.reduceToNat, List.getD_cons_succ, List.getD_cons_zero, Int.reduceLE, Int.reduceLT, Int.reduceEq, Int.reduceNeg, Int.reduceAdd, Int.reduceMul, and_self, em_b, ne_eq, not_false_eq_true, not_true_eq_false]
                try rfl
        have hu0 : upsTo c y 0 = true := by show (!downB c y) = true; rw [hd']; rfl
        rw [← lp (kN c) 0 (by omega) hu0 none]
        have e2 : lst (fnw i A) y 0 = fnw i A y := rfl
        rw [e2]
        simp (disch := omega) only [e_246_0, e_246_1, e_246_4, e_246_6, e_246_7, e_246_8, e_246_9, e_246_10, e_246_11, e_246_13, e_246_15, e_246_16, e_246_19, e_246_20, e_246_22, e_246_25, e_246_28, e_246_29, e_246_30, e_246_31, e_246_33, e_246_36, e_246_38, e_246_39, e1, h80, up1, fn1, mdO_c, mdO_g0, mdO_k0, mdO_g1, mdO_k1, mdO_g2, mdO_k2, mdO_g3, mdO_k3, mdO_g4, mdO_k4, mdO_g5, mdO_k5, mdO_g6, mdO_k6, mdO_g7, mdO_k7, mdO_g8, mdO_k8, mdO_g9, mdO_k9, mdO_g10, mdO_k10, mdO_g11, mdO_k11, mdO_g12, mdO_k12, mdO_g13, mdO_k13, mdO_g14, mdO_k14, mdO_g15, mdO_k15, mdO_g16, mdO_k16, mdO_g17, mdO_k17, mdO_g18, mdO_k18, mdO_g19, mdO_k19, mdO_g20, mdO_k20, mdO_g21, mdO_k21, mdO_g22, mdO_k22, mdO_g23, mdO_k23, mdO_g24, mdO_k24, mdO_g25, mdO_k25, mdO_g26, mdO_k26, mdO_g27, mdO_k27, mdO_g28, mdO_k28, mdO_g29, mdO_k29, mdO_g30, mdO_k30, mdO_g31, mdO_k31, mdO_g32, mdO_k32, mdO_g33, mdO_k33, mdO_g34, mdO_k34, mdO_g35, mdO_k35, mdO_s0, mdO_s5, mdO_s6, mdO_s7, mdO_s8, mdO_s9, mdO_s10, mdO_s11, mdO_s12, mdO_s13, mdO_s14, mdO_s15, mdO_s19, mdO_s20, mdO_s25, mdO_s26, mdO_s31, mdO_s32, md_1, md_2, md_g71, md_g72, md_g73, md_g74, md_g75, md_g76, md_g77, md_g78, md_g79, md_g80, md_g81, md_g82, md_g83, md_g84, md_g85, md_g86, md_g87, md_g88, md_g89, md_out, md_u71, md_u72, md_u73, md_u74, md_u75, md_u76, md_u77, md_u78, md_u79, md_u80, md_u81, md_u82, md_u83, md_u84, md_u85, md_u86, md_u87, md_u88, md_u89, md_uo, iup_s, iup_n, aup_s, aup_n, ne_eq, not_false_eq_true, sh_0, sh_1, sh_2, sh_3, sh_4, sh_5, sh_8, sh_15, sh_16, sh_24, Int.reducePow, Int.cast_ofNat_Int, w_of, wl_of, ltT, ltF, leT, leF, eqT, eqF, okF_0, okF_s, gF_0, gF_s, consC_o, sF_0, sF_s, clsO_o, inA_i, ldA_i, stA_i, inJ_l, ldJ_l, stJ_l, inR_r, ldR_r, stR_r, tgR_r, lenA_i, lenA_l, lenA_r, lenA_ex, nl_i, nl_o, nl_l, nl_n, wd_n, wd_i, wd_l, wd_o, fit_i, fit_l, fit_o, K_v, K_n, true_and, and_true, Nat.reduceAdd, Nat.reduceLeDiff, Nat.reduceEqDiff, Nat.reduceMul, Nat.reduceLT, reduceIte, true_or, or_true, cmp_lt, cmp_gt, cmp_eq, wb_0, b_01, cmp_lt', cmp_gt', cmp_eq', b_0, b_1, wb_1, Int.reduceSub, Int.reduceToNat, List.getD_cons_succ, List.getD_cons_zero, Int.reduceLE, Int.reduceLT, Int.reduceEq, Int.reduceNeg, Int.reduceAdd, Int.reduceMul, and_self, em_b, ne_eq, not_false_eq_true, not_true_eq_false]
        try rfl
  · rw [alwM_3 hK] at ha
    unfold upV
    rw [ha]
    simp only [Bool.false_and, if_false, Bool.false_eq_true]
    simp (disch := omega) only [e_246_0, e_246_1, e_246_4, e_246_6, e_246_7, e_246_8, e_246_9, e_246_10, e_246_11, e_246_13, e_246_15, e_246_16, e_246_19, e_246_20, e_246_22, e_246_25, e_246_28, e_246_29, e1, h80, mdO_c, mdO_g0, mdO_k0, mdO_g1, mdO_k1, mdO_g2, mdO_k2, mdO_g3, mdO_k3, mdO_g4, mdO_k4, mdO_g5, mdO_k5, mdO_g6, mdO_k6, mdO_g7, mdO_k7, mdO_g8, mdO_k8, mdO_g9, mdO_k9, mdO_g10, mdO_k10, mdO_g11, mdO_k11, mdO_g12, mdO_k12, mdO_g13, mdO_k13, mdO_g14, mdO_k14, mdO_g15, mdO_k15, mdO_g16, mdO_k16, mdO_g17, mdO_k17, mdO_g18, mdO_k18, mdO_g19, mdO_k19, mdO_g20, mdO_k20, mdO_g21, mdO_k21, mdO_g22, mdO_k22, mdO_g23, mdO_k23, mdO_g24, mdO_k24, mdO_g25, mdO_k25, mdO_g26, mdO_k26, mdO_g27, mdO_k27, mdO_g28, mdO_k28, mdO_g29, mdO_k29, mdO_g30, mdO_k30, mdO_g31, mdO_k31, mdO_g32, mdO_k32, mdO_g33, mdO_k33, mdO_g34, mdO_k34, mdO_g35, mdO_k35, mdO_s0, mdO_s5, mdO_s6, mdO_s7, mdO_s8, mdO_s9, mdO_s10, mdO_s11, mdO_s12, mdO_s13, mdO_s14, mdO_s15, mdO_s19, mdO_s20, mdO_s25, mdO_s26, mdO_s31, mdO_s32, md_1, md_2, md_g71, md_g72, md_g73, md_g74, md_g75, md_g76, md_g77, md_g78, md_g79, md_g80, md_g81, md_g82, md_g83, md_g84, md_g85, md_g86, md_g87, md_g88, md_g89, md_out, md_u71, md_u72, md_u73, md_u74, md_u75, md_u76, md_u77, md_u78, md_u79, md_u80, md_u81, md_u82, md_u83, md_u84, md_u85, md_u86, md_u87, md_u88, md_u89, md_uo, iup_s, iup_n, aup_s, aup_n, ne_eq, not_false_eq_true, sh_0, sh_1, sh_2, sh_3, sh_4, sh_5, sh_8, sh_15, sh_16, sh_24, Int.reducePow, Int.cast_ofNat_Int, w_of, wl_of, ltT, ltF, leT, leF, eqT, eqF, okF_0, okF_s, gF_0, gF_s, consC_o, sF_0, sF_s, clsO_o, inA_i, ldA_i, stA_i, inJ_l, ldJ_l, stJ_l, inR_r, ldR_r, stR_r, tgR_r, lenA_i, lenA_l, lenA_r, lenA_ex, nl_i, nl_o, nl_l, nl_n, wd_n, wd_i, wd_l, wd_o, fit_i, fit_l, fit_o, K_v, K_n, true_and, and_true, Nat.reduceAdd, Nat.reduceLeDiff, Nat.reduceEqDiff, Nat.reduceMul, Nat.reduceLT, reduceIte, true_or, or_true, cmp_lt, cmp_gt, cmp_eq, wb_0, b_01, cmp_lt', cmp_gt', cmp_eq', b_0, b_1, wb_1, Int.reduceSub, Int.reduceToNat, List.getD_cons_succ, List.getD_cons_zero, Int.reduceLE, Int.reduceLT, Int.reduceEq, Int.reduceNeg, Int.reduceAdd, Int.reduceMul, and_self, em_b, ne_eq, not_false_eq_true, not_true_eq_false]

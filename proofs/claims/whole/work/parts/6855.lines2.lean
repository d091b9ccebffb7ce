/-! READING A COUNTY: ways, bears, weather -/
section ln
variable {b : List Int} {n q : Nat} {c : KC} {C : List Int}
theorem or_32 {x k : Nat} (hx : x < 32) (hk : k < 5) : (x ||| 2 ^ k) < 32 ∧ ∀ j, (x ||| 2 ^ k) / 2 ^ j % 2 = if j = k then 1 else x / 2 ^ j % 2 := by
  have all : ∀ x : Fin 32, ∀ k : Fin 5, ((x : Nat) ||| 2 ^ (k : Nat)) < 32 ∧ ∀ j : Fin 5, ((x : Nat) ||| 2 ^ (k : Nat)) / 2 ^ (j : Nat) % 2 = if (j : Nat) = k then 1 else (x : Nat) / 2 ^ (j : Nat) % 2 := by decide +kernel
  obtain ⟨h1, h2⟩ := all ⟨x, hx⟩ ⟨k, hk⟩
  refine ⟨h1, fun j => ?_⟩
  by_cases hj : j < 5
  · exact h2 ⟨j, hj⟩
  · have hp : 2 ^ 5 ≤ 2 ^ j := Nat.pow_le_pow_right (by decide) (by omega)
    have h1' : (x ||| 2 ^ k) < 32 := h1
    rw [if_neg (by omega), Nat.div_eq_of_lt (by omega), Nat.div_eq_of_lt (by omega)]
def wayF (f : Nat → Nat) (x y : Nat) : Nat → Nat := fup (fup f x (f x ||| 2 ^ y)) y (f y ||| 2 ^ x)
theorem way_at {f : Nat → Nat} {x y : Nat} (hxy : x ≠ y) (k : Nat) : wayF f x y k = if k = y then f y ||| 2 ^ x else if k = x then f x ||| 2 ^ y else f k := by
  unfold wayF fup
  rfl
theorem LN_way (hnb : n ≤ b.length) (hqn : q ≤ n) (hk : tkK b n q = 3) (hD : okD c) (hC : C.length ≤ q) : ∃ s' c' C', LNp n q c s' c' C' ∧ LNc b n 9 64 101 [some (vi 3), none, none, none] q c C s' c' C' ∧ LNf b n 9 189 0 [none, none] q c C s' c' C' := by
  have hlt := tkE_lt hqn (show tkK b n q ≠ 32 by omega)
  have hle := (tkE_le (b := b) hqn).2
  have h33 : tkK b n q ≠ 33 := by omega
  obtain ⟨hP1, hP5, hN3⟩ := hD.1
  have ok1 : okq n (.inl (tkE b n q)) := fun z e => by cases e; exact hle
  have ok2 := nu_ok (b := b) (lo := 0) (hi := (kP c : Int) - 1) (oth := -1) ok1
  cases ho : nuO b n 0 ((kP c : Int) - 1) (-1) (.inl (tkE b n q)) with
  | none =>
    have e2 : ∃ x, nuS b n 0 ((kP c : Int) - 1) (-1) (.inl (tkE b n q)) = .inr x := by
      cases e : nuS b n 0 ((kP c : Int) - 1) (-1) (.inl (tkE b n q)) with
      | inl z => obtain ⟨x, hx⟩ := nu_al e; rw [ho] at hx; cases hx
      | inr x => exact ⟨x, rfl⟩
    obtain ⟨x2, e2⟩ := e2
    refine ⟨.inr x2, c, C, (fun q'' e => by cases e), fun h i j A hX hT hc hR hcd => ?_, fun h i A hX hT hr hR => ?_⟩
    · obtain ⟨r1, r2, r3, r4, r5, r6, r7⟩ := hR
      obtain ⟨i1, a1, a2, a3⟩ := C_st1 (h := h) (j := j) hX hT hnb hc
      obtain ⟨i2, w1, b1, b2, b3, b4, b5⟩ := C_nu (h := h) (j := j) (A := A) (s := .inl (tkE b n q)) (lo := 0) (hi := (kP c : Int) - 1) (oth := -1) hX hT hnb (by omega) (by omega) (by omega) a1
      rw [e2] at b1
      have hw1 : w1 = 0 := by
        rcases b3 with z | ⟨z, hz⟩
        · exact z
        · rw [ho] at hz; cases hz
      subst hw1
      obtain ⟨i3, w2, c1, c2, c3, c4, c5⟩ := C_nu (h := h) (j := j) (A := A) (s := .inr x2) (lo := 0) (hi := (kP c : Int) - 1) (oth := 0) hX hT hnb (by omega) (by omega) (by omega) b1
      have hw2 : w2 = 0 := by
        rcases c3 with z | ⟨z, hz⟩
        · exact z
        · cases hz
      subst hw2
      refine ⟨i3, j, aup A 16 (fset (fset (A 16) 0 (ior (A 16 0) (1 * 2 ^ sh 0))) 0 (ior (ior (A 16 0) (1 * 2 ^ sh 0)) (1 * 2 ^ sh 0))), c1, fun z => absurd (alC_R z) (fun ⟨y, e⟩ => by cases e), cd_t (cd_fr hcd rfl (aup_n (by omega))) (fun _ => trivial), frI_t a2 (frI_t b2 c2), frA_u (by decide), fun d Q hd => ?_⟩
      obtain ⟨d', rfl⟩ : ∃ d', d = d' + 1 := ⟨d - 1, by omega⟩
      simp (disch := omega) only [e_64_101, e_64_102, e_64_105, e_64_108, e_64_109, e_64_110, e_64_111, e_64_114, e_64_115, e_64_116, e_64_117, e_64_120, e_64_121, e_64_122, e_64_123, e_64_124, e_64_127, e_64_128, e_64_129, e_64_130, e_64_133, e_64_135, e_64_136, e_64_139, e_64_140, e_64_141, e_64_142, e_64_143, e_64_145, e_64_146, e_64_147, e_64_148, e_64_149, e_64_152, e_64_154, e_64_155, e_64_156, e_64_157, e_64_158, e_64_159, e_64_160, e_64_161, e_64_235, r1, a3, b5, c5, aup_aup, fs_same, true_and, tkO_c, tkO_g0, tkO_k0, tkO_g1, tkO_k1, tkO_g2, tkO_k2, tkO_g3, tkO_k3, tkO_g4, tkO_k4, tkO_g5, tkO_k5, tkO_g6, tkO_k6, tkO_g7, tkO_k7, tkO_g8, tkO_k8, tkO_s1, tkO_s2, tkO_s3, tkO_s4, tkO_s5, tkO_s6, tkO_s7, tkO_s8, rdO_c, rdO_g0, rdO_k0, rdO_g1, rdO_k1, rdO_g2, rdO_k2, rdO_g3, rdO_k3, rdO_g4, rdO_k4, rdO_g5, rdO_k5, rdO_g6, rdO_k6, rdO_g7, rdO_k7, rdO_g8, rdO_k8, rdO_g9, rdO_k9, rdO_g10, rdO_k10, rdO_g11, rdO_k11, rdO_g12, rdO_k12, rdO_g13, rdO_k13, rdO_g14, rdO_k14, rdO_g15, rdO_k15, rdO_g16, rdO_k16, rdO_g17, rdO_k17, rdO_s2, rdO_s3, rdO_s4, rdO_s10, rdO_s11, rdO_s12, rdO_s13, rdO_s14, rdO_s15, rdO_s16, rdO_s17, rh_1, rh_2, rh_g11, rh_g12, rh_g13, rh_g14, rh_g15, rh_g16, rh_g17, rh_g18, rh_g19, rh_out, rh_u11, rh_u12, rh_u13, rh_u14, rh_u15, rh_u16, rh_u17, rh_u18, rh_u19, iup_s, iup_n, aup_s, aup_n, ne_eq, not_false_eq_true, sh_0, sh_1, sh_2, sh_3, sh_4, sh_5, sh_8, sh_15, sh_16, sh_24, Int.reducePow, Int.cast_ofNat_Int, w_of, wl_of, ltT, ltF, leT, leF, eqT, eqF, okF_0, okF_s, gF_0, gF_s, consC_o, sF_0, sF_s, clsO_o, inA_i, ldA_i, stA_i, inJ_l, ldJ_l, stJ_l, inR_r, ldR_r, stR_r, tgR_r, lenA_i, lenA_l, lenA_r, lenA_ex, nl_i, nl_o, nl_l, nl_n, wd_n, wd_i, wd_l, wd_o, fit_i, fit_l, fit_o, K_v, K_n, true_and, and_true, Nat.reduceAdd, Nat.reduceLeDiff, Nat.reduceEqDiff, Nat.reduceMul, Nat.reduceLT, reduceIte, true_or, or_true, cmp_lt, cmp_gt, cmp_eq, wb_0, b_01, cmp_lt', cmp_gt', cmp_eq', b_0, b_1, wb_1, Int.reduceSub, Int.reduceToNat, List.getD_cons_succ, List.getD_cons_zero, Int.reduceLE, Int.reduceLT, Int.reduceEq, Int.reduceNeg, Int.reduceAdd, Int.reduceMul, and_self, em_b, ne_eq, not_false_eq_true, not_true_eq_false]
      try rfl
    · obtain ⟨r0, r1, r2, r3, r4, r5, r6, r7, r8, r9, r10, r11, r12⟩ := hR
      obtain ⟨i1, a1, a2, a3⟩ := R_nx1 (h := h) (A := A) hX hT hnb hr
      obtain ⟨i2, w1, b1, b2, b4, b5⟩ := R_tk (h := h) (A := A) (lo := 0) (hi := (kP c : Int) - 1) hX hT hnb (by omega) (by omega) a1
      rw [e2] at b1
      have is := r_is (h := h) (A := A) (kd := 30) (by decide) b1
      rw [if_neg (fun z => by cases z), show rkK 30 = 23 from rfl] at is
      obtain ⟨i3, w2, c1, c2, c4, c5⟩ := R_tk (h := h) (A := A) (lo := 0) (hi := (kP c : Int) - 1) hX hT hnb (by omega) (by omega) b1
      have c1' : rfT b n i3 (.inr x2) := c1
      obtain ⟨c11, c11'⟩ := (rf_wr c1').2 (fun ⟨y, e⟩ => by cases e)
      refine ⟨i3, A, c1, fun z => absurd z (fun ⟨y, e⟩ => by cases e), frI_w (frI_t a2 (frI_t b2 c2)) (by decide), frA_r, fun d Q hd => ?_⟩
      obtain ⟨d', rfl⟩ : ∃ d', d = d' + 1 := ⟨d - 1, by omega⟩
      simp (disch := omega) only [e_189_0, e_189_1, e_189_4, e_189_5, e_189_6, e_189_7, e_189_10, e_189_11, e_189_12, e_189_13, e_189_14, e_189_17, e_189_18, e_189_19, e_189_21, e_189_24, e_189_40, e_189_41, e_189_42, e_189_43, e_189_46, e_189_47, e_189_48, e_189_49, e_189_50, e_189_53, e_189_54, e_189_55, e_189_58, e_189_61, r1, a3, b5, is, c5, true_and, mdO_c, mdO_g0, mdO_k0, mdO_g1, mdO_k1, mdO_g2, mdO_k2, mdO_g3, mdO_k3, mdO_g4, mdO_k4, mdO_g5, mdO_k5, mdO_g6, mdO_k6, mdO_g7, mdO_k7, mdO_g8, mdO_k8, mdO_g9, mdO_k9, mdO_g10, mdO_k10, mdO_g11, mdO_k11, mdO_g12, mdO_k12, mdO_g13, mdO_k13, mdO_g14, mdO_k14, mdO_g15, mdO_k15, mdO_g16, mdO_k16, mdO_g17, mdO_k17, mdO_g18, mdO_k18, mdO_g19, mdO_k19, mdO_g20, mdO_k20, mdO_g21, mdO_k21, mdO_g22, mdO_k22, mdO_g23, mdO_k23, mdO_g24, mdO_k24, mdO_g25, mdO_k25, mdO_g26, mdO_k26, mdO_g27, mdO_k27, mdO_g28, mdO_k28, mdO_g29, mdO_k29, mdO_g30, mdO_k30, mdO_g31, mdO_k31, mdO_g32, mdO_k32, mdO_g33, mdO_k33, mdO_g34, mdO_k34, mdO_g35, mdO_k35, mdO_s0, mdO_s5, mdO_s6, mdO_s7, mdO_s8, mdO_s9, mdO_s10, mdO_s11, mdO_s12, mdO_s13, mdO_s14, mdO_s15, mdO_s19, mdO_s20, mdO_s25, mdO_s26, mdO_s31, mdO_s32, md_1, md_2, md_g71, md_g72, md_g73, md_g74, md_g75, md_g76, md_g77, md_g78, md_g79, md_g80, md_g81, md_g82, md_g83, md_g84, md_g85, md_g86, md_g87, md_g88, md_g89, md_out, md_u71, md_u72, md_u73, md_u74, md_u75, md_u76, md_u77, md_u78, md_u79, md_u80, md_u81, md_u82, md_u83, md_u84, md_u85, md_u86, md_u87, md_u88, md_u89, md_uo, iup_s, iup_n, aup_s, aup_n, ne_eq, not_false_eq_true, sh_0, sh_1, sh_2, sh_3, sh_4, sh_5, sh_8, sh_15, sh_16, sh_24, Int.reducePow, Int.cast_ofNat_Int, w_of, wl_of, ltT, ltF, leT, leF, eqT, eqF, okF_0, okF_s, gF_0, gF_s, consC_o, sF_0, sF_s, clsO_o, inA_i, ldA_i, stA_i, inJ_l, ldJ_l, stJ_l, inR_r, ldR_r, stR_r, tgR_r, lenA_i, lenA_l, lenA_r, lenA_ex, nl_i, nl_o, nl_l, nl_n, wd_n, wd_i, wd_l, wd_o, fit_i, fit_l, fit_o, K_v, K_n, true_and, and_true, Nat.reduceAdd, Nat.reduceLeDiff, Nat.reduceEqDiff, Nat.reduceMul, Nat.reduceLT, reduceIte, true_or, or_true, cmp_lt, cmp_gt, cmp_eq, wb_0, b_01, cmp_lt', cmp_gt', cmp_eq', b_0, b_1, wb_1, Int.reduceSub, Int.reduceToNat, List.getD_cons_succ, List.getD_cons_zero, Int.reduceLE, Int.reduceLT, Int.reduceEq, Int.reduceNeg, Int.reduceAdd, Int.reduceMul, and_self, em_b, ne_eq, not_false_eq_true, not_true_eq_false]
      try rfl
  | some y =>
    obtain ⟨q2, kz⟩ := y
    obtain ⟨q1, e1, k0, k1, k2, k3, k4, k5⟩ := nu_O ok1 ho
    cases e1
    obtain ⟨k, rfl⟩ : ∃ k : Nat, kz = (k : Int) := ⟨kz.toNat, by omega⟩
    have e2 : nuS b n 0 ((kP c : Int) - 1) (-1) (.inl (tkE b n q)) = .inl q2 := by unfold nuS; rw [ho]
    have okq2 : okq n (.inl q2) := fun z e => by cases e; exact k5
    by_cases hal : alR (nuS b n 0 ((kP c : Int) - 1) (k : Int) (.inl q2))
    · obtain ⟨q', e'⟩ := hal
      obtain ⟨vz, hv⟩ := nu_al e'
      obtain ⟨q2', e3, v0, v1, v2, v3, v4, v5⟩ := nu_O okq2 hv
      cases e3
      obtain ⟨v, rfl⟩ : ∃ v : Nat, vz = (v : Int) := ⟨vz.toNat, by omega⟩
      have hkv : k ≠ v := by omega
      have hv1 : tkE b n q2 = q' ∧ tkV b n q2 = (v : Int) := by
        rw [nuO_30 v0] at hv
        split at hv
        · exact ⟨congrArg Prod.fst (Option.some.inj hv), congrArg Prod.snd (Option.some.inj hv)⟩
        · cases hv
      have tv := hv1.2
      have hv' : nuO b n 0 ((kP c : Int) - 1) (-1) (.inl q2) = some (q', (v : Int)) := by
        rw [nuO_30 v0, if_pos ⟨by omega, by omega, by omega⟩, hv1.1, hv1.2]
      have e'' : nuS b n 0 ((kP c : Int) - 1) (-1) (.inl q2) = .inl q' := by unfold nuS; rw [hv']
      have hwk := hD.2.2.2.1 k
      have hwv := hD.2.2.2.1 v
      have pk : 2 ^ k < 32 := by have : 2 ^ k ≤ 2 ^ 4 := Nat.pow_le_pow_right (by decide) (by omega); omega
      have pv : 2 ^ v < 32 := by have : 2 ^ v ≤ 2 ^ 4 := Nat.pow_le_pow_right (by decide) (by omega); omega
      have o1 : ior ((kWay c k : Nat) : Int) (1 * 2 ^ sh ((v : Nat) : Int)) = ((kWay c k ||| 2 ^ v : Nat) : Int) := by
        rw [sh_nat (by omega), Int.one_mul, castP, ior_nat (by omega) (by omega)]
      have o2 : ior ((kWay c v : Nat) : Int) (1 * 2 ^ sh ((k : Nat) : Int)) = ((kWay c v ||| 2 ^ k : Nat) : Int) := by
        rw [sh_nat (by omega), Int.one_mul, castP, ior_nat (by omega) (by omega)]
      refine ⟨.inl q', kW c (wayF (kWay c) k v), C, fun q'' e => ?_, fun h i j A hX hT hc hR hcd => ?_, fun h i A hX hT hr hR => ?_⟩
      · cases e
        obtain ⟨d1, d2, d3, d4, d5, d6, d7, d8, d9, d10⟩ := hD
        refine ⟨by omega, v5, ⟨d1, d2, d3, fun x => ?_, d5, d6, d7, d8, fun x => ?_, fun x y hy => ?_, d10.2⟩, by omega, rfl⟩
        · show wayF (kWay c) k v x < 32
          rw [way_at hkv]
          split
          · exact (or_32 (d4 v) (by omega)).1
          · split
            · exact (or_32 (d4 k) (by omega)).1
            · exact d4 x
        · show wayF (kWay c) k v x / 2 ^ x % 2 = 0
          rw [way_at hkv]
          split
          · next z => rw [z, (or_32 (d4 v) (by omega)).2 v, if_neg (fun w => hkv w.symm)]; exact d9 v
          · split
            · next z => rw [z, (or_32 (d4 k) (by omega)).2 k, if_neg hkv]; exact d9 k
            · exact d9 x
        · have hy' : kP c ≤ y := hy
          show wayF (kWay c) k v x / 2 ^ y % 2 = 0
          rw [way_at hkv]
          split
          · rw [(or_32 (d4 v) (by omega)).2 y, if_neg (by omega)]; exact d10.1 v y hy
          · split
            · rw [(or_32 (d4 k) (by omega)).2 y, if_neg (by omega)]; exact d10.1 k y hy
            · exact d10.1 x y hy
      · obtain ⟨r1, r2, r3, r4, r5, r6, r7⟩ := hR
        obtain ⟨i1, a1, a2, a3⟩ := C_st1 (h := h) (j := j) hX hT hnb hc
        obtain ⟨i2, w1, b1, b2, b3, b4, b5⟩ := C_nu (h := h) (j := j) (A := A) (s := .inl (tkE b n q)) (lo := 0) (hi := (kP c : Int) - 1) (oth := -1) hX hT hnb (by omega) (by omega) (by omega) a1
        have ew1 := b4 _ _ ho
        subst ew1
        rw [e2] at b1
        obtain ⟨i3, w2, c1, c2, c3, c4, c5⟩ := C_nu (h := h) (j := j) (A := A) (s := .inl q2) (lo := 0) (hi := (kP c : Int) - 1) (oth := (k : Int)) hX hT hnb (by omega) (by omega) (by omega) b1
        have ew2 := c4 _ _ hv
        subst ew2
        rw [e'] at c1
        have y1 := (r6 k (by omega)).2
        have y2 := (r6 v (by omega)).2
        have y3 : fset (A 16) (k : Nat) ((kWay c k ||| 2 ^ v : Nat) : Int) (v : Nat) = ((kWay c v : Nat) : Int) := by rw [fs_ne (by omega)]; exact y2
        refine ⟨i3, j, aup A 16 (fset (fset (A 16) (k : Nat) ((kWay c k ||| 2 ^ v : Nat) : Int)) (v : Nat) ((kWay c v ||| 2 ^ k : Nat) : Int)), c1, fun _ => ⟨r1, r2, r3, r4, r5, fun x hx => ⟨by rw [aup_n (by omega)]; exact (r6 x hx).1, ?_⟩, fun p hp => by rw [aup_n (by omega), aup_n (by omega), aup_n (by omega)]; exact r7.1 p hp, r7.2⟩, cd_t (cd_fr hcd rfl (aup_n (by omega))) (fun _ => trivial), frI_t a2 (frI_t b2 c2), frA_u (by decide), fun d Q hd => ?_⟩
        · rw [aup_s]
          show _ = ((wayF (kWay c) k v x : Nat) : Int)
          rw [way_at hkv]
          by_cases z : x = v
          · rw [if_pos z, z, fs_same]
          · rw [if_neg z, fs_ne (by omega)]
            by_cases z2 : x = k
            · rw [if_pos z2, z2, fs_same]
            · rw [if_neg z2, fs_ne (by omega)]; exact (r6 x hx).2
        · obtain ⟨d', rfl⟩ : ∃ d', d = d' + 1 := ⟨d - 1, by omega⟩
          simp (disch := omega) only [e_64_101, e_64_102, e_64_105, e_64_108, e_64_109, e_64_110, e_64_111, e_64_114, e_64_115, e_64_116, e_64_117, e_64_120, e_64_121, e_64_122, e_64_123, e_64_124, e_64_127, e_64_128, e_64_129, e_64_130, e_64_133, e_64_135, e_64_136, e_64_139, e_64_140, e_64_141, e_64_142, e_64_143, e_64_145, e_64_146, e_64_147, e_64_148, e_64_149, e_64_152, e_64_154, e_64_155, e_64_156, e_64_157, e_64_158, e_64_159, e_64_160, e_64_161, e_64_235, r1, a3, b5, c5, y1, o1, y3, o2, aup_aup, true_and, tkO_c, tkO_g0, tkO_k0, tkO_g1, tkO_k1, tkO_g2, tkO_k2, tkO_g3, tkO_k3, tkO_g4, tkO_k4, tkO_g5, tkO_k5, tkO_g6, tkO_k6, tkO_g7, tkO_k7, tkO_g8, tkO_k8, tkO_s1, tkO_s2, tkO_s3, tkO_s4, tkO_s5, tkO_s6, tkO_s7, tkO_s8, rdO_c, rdO_g0, rdO_k0, rdO_g1, rdO_k1, rdO_g2, rdO_k2, rdO_g3, rdO_k3, rdO_g4, rdO_k4, rdO_g5, rdO_k5, rdO_g6, rdO_k6, rdO_g7, rdO_k7, rdO_g8, rdO_k8, rdO_g9, rdO_k9, rdO_g10, rdO_k10, rdO_g11, rdO_k11, rdO_g12, rdO_k12, rdO_g13, rdO_k13, rdO_g14, rdO_k14, rdO_g15, rdO_k15, rdO_g16, rdO_k16, rdO_g17, rdO_k17, rdO_s2, rdO_s3, rdO_s4, rdO_s10, rdO_s11, rdO_s12, rdO_s13, rdO_s14, rdO_s15, rdO_s16, rdO_s17, rh_1, rh_2, rh_g11, rh_g12, rh_g13, rh_g14, rh_g15, rh_g16, rh_g17, rh_g18, rh_g19, rh_out, rh_u11, rh_u12, rh_u13, rh_u14, rh_u15, rh_u16, rh_u17, rh_u18, rh_u19, iup_s, iup_n, aup_s, aup_n, ne_eq, not_false_eq_true, sh_0, sh_1, sh_2, sh_3, sh_4, sh_5, sh_8, sh_15, sh_16, sh_24, Int.reducePow, Int.cast_ofNat_Int, w_of, wl_of, ltT, ltF, leT, leF, eqT, eqF, okF_0, okF_s, gF_0, gF_s, consC_o, sF_0, sF_s, clsO_o, inA_i, ldA_i, stA_i, inJ_l, ldJ_l, stJ_l, inR_r, ldR_r, stR_r, tgR_r, lenA_i, lenA_l, lenA_r, lenA_ex, nl_i, nl_o, nl_l, nl_n, wd_n, wd_i, wd_l, wd_o, fit_i, fit_l, fit_o, K_v, K_n, true_and, and_true, Nat.reduceAdd, Nat.reduceLeDiff, Nat.reduceEqDiff, Nat.reduceMul, Nat.reduceLT, reduceIte, true_or, or_true, cmp_lt, cmp_gt, cmp_eq, wb_0, b_01, cmp_lt', cmp_gt', cmp_eq', b_0, b_1, wb_1, Int.reduceSub, Int.reduceToNat, List.getD_cons_succ, List.getD_cons_zero, Int.reduceLE, Int.reduceLT, Int.reduceEq, Int.reduceNeg, Int.reduceAdd, Int.reduceMul, and_self, em_b, ne_eq, not_false_eq_true, not_true_eq_false]
          try rfl
      · obtain ⟨r0, r1, r2, r3, r4, r5, r6, r7, r8, r9, r10, r11, r12⟩ := hR
        obtain ⟨i1, a1, a2, a3⟩ := R_nx1 (h := h) (A := A) hX hT hnb hr
        obtain ⟨i2, w1, b1, b2, b4, b5⟩ := R_tk (h := h) (A := A) (lo := 0) (hi := (kP c : Int) - 1) hX hT hnb (by omega) (by omega) a1
        have ew1 := b4 _ _ ho
        subst ew1
        rw [e2] at b1
        have is := r_is (h := h) (A := A) (kd := 30) (by decide) b1
        rw [if_pos (show isB b n (.inl q2) 30 = true from decide_eq_true v0), show rkK 30 = 23 from rfl] at is
        have t10 : i2 10 = (v : Int) := by rw [b1.2.2.2.2.2.2 v0, tv]
        obtain ⟨i3, w2, c1, c2, c4, c5⟩ := R_tk (h := h) (A := A) (lo := 0) (hi := (kP c : Int) - 1) hX hT hnb (by omega) (by omega) b1
        have ew2 := c4 _ _ hv'
        subst ew2
        rw [e''] at c1
        have c11 : i3 11 = 0 := c1.2.2.1
        have y1 := (r3 k (by omega)).2
        have y2 := (r3 v (by omega)).2
        have ek : (14 : Int) + (k : Int) = ((14 + k : Nat) : Int) := by omega
        have ev : (14 : Int) + (v : Int) = ((14 + v : Nat) : Int) := by omega
        rw [ek] at y1
        rw [ev] at y2
        have y3 : fset (A 75) ((14 + k : Nat) : Int) ((kWay c k ||| 2 ^ v : Nat) : Int) ((14 + v : Nat) : Int) = ((kWay c v : Nat) : Int) := by rw [fs_ne (by omega)]; exact y2
        have nkv : ¬ ((v : Nat) : Int) = (k : Int) := by omega
        refine ⟨i3, aup A 75 (fset (fset (A 75) ((14 + k : Nat) : Int) ((kWay c k ||| 2 ^ v : Nat) : Int)) ((14 + v : Nat) : Int) ((kWay c v ||| 2 ^ k : Nat) : Int)), c1, fun _ => ⟨by rw [aup_s, fs_ne (by omega), fs_ne (by omega)]; exact r0, by rw [aup_s, fs_ne (by omega), fs_ne (by omega)]; exact r1, by rw [aup_s, fs_ne (by omega), fs_ne (by omega)]; exact r2, fun x hx => ⟨by rw [aup_s, fs_ne (by omega), fs_ne (by omega)]; exact (r3 x hx).1, ?_⟩, fun p hp => by rw [aup_s, fs_ne (by omega), fs_ne (by omega), fs_ne (by omega), fs_ne (by omega), fs_ne (by omega), fs_ne (by omega)]; exact r4 p hp, by rw [aup_s, fs_ne (by omega), fs_ne (by omega)]; exact r5, by rw [aup_s, fs_ne (by omega), fs_ne (by omega)]; exact r6, by rw [aup_s, fs_ne (by omega), fs_ne (by omega)]; exact r7, by rw [aup_s, fs_ne (by omega), fs_ne (by omega)]; exact r8, by rw [aup_s, fs_ne (by omega), fs_ne (by omega)]; exact r9, r10, lwR_fr (by omega) (fun y hy => by rw [aup_s, fs_ne (by omega), fs_ne (by omega)]) r11, lwR_fr (by omega) (fun y hy => by rw [aup_s, fs_ne (by omega), fs_ne (by omega)]) r12⟩, frI_w (frI_t a2 (frI_t b2 c2)) (by decide), frA_u (by decide), fun d Q hd => ?_⟩
        · rw [aup_s]
          show _ = ((wayF (kWay c) k v x : Nat) : Int)
          rw [way_at hkv]
          by_cases z : x = v
          · rw [if_pos z, z, ev, fs_same]
          · rw [if_neg z, fs_ne (by omega)]
            by_cases z2 : x = k
            · rw [if_pos z2, z2, ek, fs_same]
            · rw [if_neg z2, fs_ne (by omega)]; exact (r3 x hx).2
        · obtain ⟨d', rfl⟩ : ∃ d', d = d' + 1 := ⟨d - 1, by omega⟩
          simp (disch := omega) only [e_189_0, e_189_1, e_189_4, e_189_5, e_189_6, e_189_7, e_189_10, e_189_11, e_189_12, e_189_13, e_189_14, e_189_17, e_189_18, e_189_19, e_189_21, e_189_24, e_189_27, e_189_28, e_189_31, e_189_32, e_189_40, e_189_41, e_189_42, e_189_43, e_189_46, e_189_47, e_189_48, e_189_49, e_189_50, e_189_53, e_189_54, e_189_55, e_189_58, e_189_61, e_189_62, e_189_63, e_189_66, e_189_68, e_189_69, e_189_70, e_189_71, e_189_72, e_189_73, e_189_74, e_189_75, e_189_76, e_189_77, e_189_78, e_189_81, e_189_83, e_189_84, e_189_85, e_189_86, e_189_87, e_189_88, e_189_89, e_189_90, e_189_91, e_189_92, r1, a3, b5, is, t10, c5, c11, ek, ev, y1, o1, y3, o2, aup_aup, true_and, mdO_c, mdO_g0, mdO_k0, mdO_g1, mdO_k1, mdO_g2, mdO_k2, mdO_g3, mdO_k3, mdO_g4, mdO_k4, mdO_g5, mdO_k5, mdO_g6, mdO_k6, mdO_g7, mdO_k7, mdO_g8, mdO_k8, mdO_g9, mdO_k9, mdO_g10, mdO_k10, mdO_g11, mdO_k11, mdO_g12, mdO_k12, mdO_g13, mdO_k13, mdO_g14, mdO_k14, mdO_g15, mdO_k15, mdO_g16, mdO_k16, mdO_g17, mdO_k17, mdO_g18, mdO_k18, mdO_g19, mdO_k19, mdO_g20, mdO_k20, mdO_g21, mdO_k21, mdO_g22, mdO_k22, mdO_g23, mdO_k23, mdO_g24, mdO_k24, mdO_g25, mdO_k25, mdO_g26, mdO_k26, mdO_g27, mdO_k27, mdO_g28, mdO_k28, mdO_g29, mdO_k29, mdO_g30, mdO_k30, mdO_g31, mdO_k31, mdO_g32, mdO_k32, mdO_g33, mdO_k33, mdO_g34, mdO_k34, mdO_g35, mdO_k35, mdO_s0, mdO_s5, mdO_s6, mdO_s7, mdO_s8, mdO_s9, mdO_s10, mdO_s11, mdO_s12, mdO_s13, mdO_s14, mdO_s15, mdO_s19, mdO_s20, mdO_s25, mdO_s26, mdO_s31, mdO_s32, md_1, md_2, md_g71, md_g72, md_g73, md_g74, md_g75, md_g76, md_g77, md_g78, md_g79, md_g80, md_g81, md_g82, md_g83, md_g84, md_g85, md_g86, md_g87, md_g88, md_g89, md_out, md_u71, md_u72, md_u73, md_u74, md_u75, md_u76, md_u77, md_u78, md_u79, md_u80, md_u81, md_u82, md_u83, md_u84, md_u85, md_u86, md_u87, md_u88, md_u89, md_uo, iup_s, iup_n, aup_s, aup_n, ne_eq, not_false_eq_true, sh_0, sh_1, sh_2, sh_3, sh_4, sh_5, sh_8, sh_15, sh_16, sh_24, Int.reducePow, Int.cast_ofNat_Int, w_of, wl_of, ltT, ltF, leT, leF, eqT, eqF, okF_0, okF_s, gF_0, gF_s, consC_o, sF_0, sF_s, clsO_o, inA_i, ldA_i, stA_i, inJ_l, ldJ_l, stJ_l, inR_r, ldR_r, stR_r, tgR_r, lenA_i, lenA_l, lenA_r, lenA_ex, nl_i, nl_o, nl_l, nl_n, wd_n, wd_i, wd_l, wd_o, fit_i, fit_l, fit_o, K_v, K_n, true_and, and_true, Nat.reduceAdd, Nat.reduceLeDiff, Nat.reduceEqDiff, Nat.reduceMul, Nat.reduceLT, reduceIte, true_or, or_true, cmp_lt, cmp_gt, cmp_eq, wb_0, b_01, cmp_lt', cmp_gt', cmp_eq', b_0, b_1, wb_1, Int.reduceSub, Int.reduceToNat, List.getD_cons_succ, List.getD_cons_zero, Int.reduceLE, Int.reduceLT, Int.reduceEq, Int.reduceNeg, Int.reduceAdd, Int.reduceMul, and_self, em_b, ne_eq, not_false_eq_true, not_true_eq_false]
          try rfl
    · refine ⟨nuS b n 0 ((kP c : Int) - 1) (k : Int) (.inl q2), c, C, fun q'' e => absurd ⟨q'', e⟩ hal, fun h i j A hX hT hc hR hcd => ?_, fun h i A hX hT hr hR => ?_⟩
      · obtain ⟨r1, r2, r3, r4, r5, r6, r7⟩ := hR
        obtain ⟨i1, a1, a2, a3⟩ := C_st1 (h := h) (j := j) hX hT hnb hc
        obtain ⟨i2, w1, b1, b2, b3, b4, b5⟩ := C_nu (h := h) (j := j) (A := A) (s := .inl (tkE b n q)) (lo := 0) (hi := (kP c : Int) - 1) (oth := -1) hX hT hnb (by omega) (by omega) (by omega) a1
        have ew1 := b4 _ _ ho
        subst ew1
        rw [e2] at b1
        obtain ⟨i3, w2, c1, c2, c3, c4, c5⟩ := C_nu (h := h) (j := j) (A := A) (s := .inl q2) (lo := 0) (hi := (kP c : Int) - 1) (oth := (k : Int)) hX hT hnb (by omega) (by omega) (by omega) b1
        have hw2 : w2 = 0 := by
          rcases c3 with z | ⟨z, hz⟩
          · exact z
          · exfalso
            apply hal
            exact ⟨z, by unfold nuS; rw [hz]⟩
        subst hw2
        refine ⟨i3, j, aup A 16 (fset (fset (A 16) (k : Nat) (ior (A 16 (k : Nat)) (1 * 2 ^ sh 0))) 0 (ior (fset (A 16) (k : Nat) (ior (A 16 (k : Nat)) (1 * 2 ^ sh 0)) 0) (1 * 2 ^ sh ((k : Nat) : Int)))), c1, fun z => absurd (alC_R z) hal, cd_t (cd_fr hcd rfl (aup_n (by omega))) (fun _ => trivial), frI_t a2 (frI_t b2 c2), frA_u (by decide), fun d Q hd => ?_⟩
        obtain ⟨d', rfl⟩ : ∃ d', d = d' + 1 := ⟨d - 1, by omega⟩
        simp (disch := omega) only [e_64_101, e_64_102, e_64_105, e_64_108, e_64_109, e_64_110, e_64_111, e_64_114, e_64_115, e_64_116, e_64_117, e_64_120, e_64_121, e_64_122, e_64_123, e_64_124, e_64_127, e_64_128, e_64_129, e_64_130, e_64_133, e_64_135, e_64_136, e_64_139, e_64_140, e_64_141, e_64_142, e_64_143, e_64_145, e_64_146, e_64_147, e_64_148, e_64_149, e_64_152, e_64_154, e_64_155, e_64_156, e_64_157, e_64_158, e_64_159, e_64_160, e_64_161, e_64_235, r1, a3, b5, c5, aup_aup, true_and, tkO_c, tkO_g0, tkO_k0, tkO_g1, tkO_k1, tkO_g2, tkO_k2, tkO_g3, tkO_k3, tkO_g4, tkO_k4, tkO_g5, tkO_k5, tkO_g6, tkO_k6, tkO_g7, tkO_k7, tkO_g8, tkO_k8, tkO_s1, tkO_s2, tkO_s3, tkO_s4, tkO_s5, tkO_s6, tkO_s7, tkO_s8, rdO_c, rdO_g0, rdO_k0, rdO_g1, rdO_k1, rdO_g2, rdO_k2, rdO_g3, rdO_k3, rdO_g4, rdO_k4, rdO_g5, rdO_k5, rdO_g6, rdO_k6, rdO_g7, rdO_k7, rdO_g8, rdO_k8, rdO_g9, rdO_k9, rdO_g10, rdO_k10, rdO_g11, rdO_k11, rdO_g12, rdO_k12, rdO_g13, rdO_k13, rdO_g14, rdO_k14, rdO_g15, rdO_k15, rdO_g16, rdO_k16, rdO_g17, rdO_k17, rdO_s2, rdO_s3, rdO_s4, rdO_s10, rdO_s11, rdO_s12, rdO_s13, rdO_s14, rdO_s15, rdO_s16, rdO_s17, rh_1, rh_2, rh_g11, rh_g12, rh_g13, rh_g14, rh_g15, rh_g16, rh_g17, rh_g18, rh_g19, rh_out, rh_u11, rh_u12, rh_u13, rh_u14, rh_u15, rh_u16, rh_u17, rh_u18, rh_u19, iup_s, iup_n, aup_s, aup_n, ne_eq, not_false_eq_true, sh_0, sh_1, sh_2, sh_3, sh_4, sh_5, sh_8, sh_15, sh_16, sh_24, Int.reducePow, Int.cast_ofNat_Int, w_of, wl_of, ltT, ltF, leT, leF, eqT, eqF, okF_0, okF_s, gF_0, gF_s, consC_o, sF_0, sF_s, clsO_o, inA_i, ldA_i, stA_i, inJ_l, ldJ_l, stJ_l, inR_r, ldR_r, stR_r, tgR_r, lenA_i, lenA_l, lenA_r, lenA_ex, nl_i, nl_o, nl_l, nl_n, wd_n, wd_i, wd_l, wd_o, fit_i, fit_l, fit_o, K_v, K_n, true_and, and_true, Nat.reduceAdd, Nat.reduceLeDiff, Nat.reduceEqDiff, Nat.reduceMul, Nat.reduceLT, reduceIte, true_or, or_true, cmp_lt, cmp_gt, cmp_eq, wb_0, b_01, cmp_lt', cmp_gt', cmp_eq', b_0, b_1, wb_1, Int.reduceSub, Int.reduceToNat, List.getD_cons_succ, List.getD_cons_zero, Int.reduceLE, Int.reduceLT, Int.reduceEq, Int.reduceNeg, Int.reduceAdd, Int.reduceMul, and_self, em_b, ne_eq, not_false_eq_true, not_true_eq_false]
        try rfl
      · obtain ⟨r0, r1, r2, r3, r4, r5, r6, r7, r8, r9, r10, r11, r12⟩ := hR
        obtain ⟨i1, a1, a2, a3⟩ := R_nx1 (h := h) (A := A) hX hT hnb hr
        obtain ⟨i2, w1, b1, b2, b4, b5⟩ := R_tk (h := h) (A := A) (lo := 0) (hi := (kP c : Int) - 1) hX hT hnb (by omega) (by omega) a1
        have ew1 := b4 _ _ ho
        subst ew1
        rw [e2] at b1
        have is := r_is (h := h) (A := A) (kd := 30) (by decide) b1
        rw [show rkK 30 = 23 from rfl] at is
        by_cases z : isB b n (.inl q2) 30 = true
        · rw [if_pos z] at is
          have v0 : tkK b n q2 = 30 := of_decide_eq_true z
          have t10 : i2 10 = tkV b n q2 := b1.2.2.2.2.2.2 v0
          have hvb := tkV_b k5 v0
          by_cases z2 : tkV b n q2 = (k : Int)
          · -- the same place twice
            have es : nuS b n 0 ((kP c : Int) - 1) (k : Int) (.inl q2) = rfS b n 3 (.inl q2) := by
              unfold nuS
              rw [nuO_30 v0, if_neg (fun w => w.2.2 z2)]
              dsimp only
              rw [if_pos z]
            rw [es]
            obtain ⟨i3, g1, g2, g10, g3⟩ := R_fl (h := h) (A := A) (w := 3) (by omega) b1
            obtain ⟨i4, w2, c1, c2, c4, c5⟩ := R_tk (h := h) (A := A) (lo := 0) (hi := (kP c : Int) - 1) hX hT hnb (by omega) (by omega) g1
            have ed : nuS b n 0 ((kP c : Int) - 1) (-1) (rfS b n 3 (.inl q2)) = rfS b n 3 (.inl q2) := rfl
            rw [ed] at c1
            obtain ⟨c11, c11'⟩ := (rf_wr c1).2 rf_no
            refine ⟨i4, A, c1, fun z => absurd z rf_no, frI_w (frI_t a2 (frI_t b2 (frI_t g2 c2))) (by decide), frA_r, fun d Q hd => ?_⟩
            obtain ⟨d', rfl⟩ : ∃ d', d = d' + 1 := ⟨d - 1, by omega⟩
            rw [z2] at t10
            simp (disch := omega) only [e_189_0, e_189_1, e_189_4, e_189_5, e_189_6, e_189_7, e_189_10, e_189_11, e_189_12, e_189_13, e_189_14, e_189_17, e_189_18, e_189_19, e_189_21, e_189_24, e_189_27, e_189_28, e_189_31, e_189_32, e_189_35, e_189_36, e_189_37, e_189_40, e_189_41, e_189_42, e_189_43, e_189_46, e_189_47, e_189_48, e_189_49, e_189_50, e_189_53, e_189_54, e_189_55, e_189_58, e_189_61, r1, a3, b5, is, t10, g3, c5, true_and, mdO_c, mdO_g0, mdO_k0, mdO_g1, mdO_k1, mdO_g2, mdO_k2, mdO_g3, mdO_k3, mdO_g4, mdO_k4, mdO_g5, mdO_k5, mdO_g6, mdO_k6, mdO_g7, mdO_k7, mdO_g8, mdO_k8, mdO_g9, mdO_k9, mdO_g10, mdO_k10, mdO_g11, mdO_k11, mdO_g12, mdO_k12, mdO_g13, mdO_k13, mdO_g14, mdO_k14, mdO_g15, mdO_k15, mdO_g16, mdO_k16, mdO_g17, mdO_k17, mdO_g18, mdO_k18, mdO_g19, mdO_k19, mdO_g20, mdO_k20, mdO_g21, mdO_k21, mdO_g22, mdO_k22, mdO_g23, mdO_k23, mdO_g24, mdO_k24, mdO_g25, mdO_k25, mdO_g26, mdO_k26, mdO_g27, mdO_k27, mdO_g28, mdO_k28, mdO_g29, mdO_k29, mdO_g30, mdO_k30, mdO_g31, mdO_k31, mdO_g32, mdO_k32, mdO_g33, mdO_k33, mdO_g34, mdO_k34, mdO_g35, mdO_k35, mdO_s0, mdO_s5, mdO_s6, mdO_s7, mdO_s8, mdO_s9, mdO_s10, mdO_s11, mdO_s12, mdO_s13, mdO_s14, mdO_s15, mdO_s19, mdO_s20, mdO_s25, mdO_s26, mdO_s31, mdO_s32, md_1, md_2, md_g71, md_g72, md_g73, md_g74, md_g75, md_g76, md_g77, md_g78, md_g79, md_g80, md_g81, md_g82, md_g83, md_g84, md_g85, md_g86, md_g87, md_g88, md_g89, md_out, md_u71, md_u72, md_u73, md_u74, md_u75, md_u76, md_u77, md_u78, md_u79, md_u80, md_u81, md_u82, md_u83, md_u84, md_u85, md_u86, md_u87, md_u88, md_u89, md_uo, iup_s, iup_n, aup_s, aup_n, ne_eq, not_false_eq_true, sh_0, sh_1, sh_2, sh_3, sh_4, sh_5, sh_8, sh_15, sh_16, sh_24, Int.reducePow, Int.cast_ofNat_Int, w_of, wl_of, ltT, ltF, leT, leF, eqT, eqF, okF_0, okF_s, gF_0, gF_s, consC_o, sF_0, sF_s, clsO_o, inA_i, ldA_i, stA_i, inJ_l, ldJ_l, stJ_l, inR_r, ldR_r, stR_r, tgR_r, lenA_i, lenA_l, lenA_r, lenA_ex, nl_i, nl_o, nl_l, nl_n, wd_n, wd_i, wd_l, wd_o, fit_i, fit_l, fit_o, K_v, K_n, true_and, and_true, Nat.reduceAdd, Nat.reduceLeDiff, Nat.reduceEqDiff, Nat.reduceMul, Nat.reduceLT, reduceIte, true_or, or_true, cmp_lt, cmp_gt, cmp_eq, wb_0, b_01, cmp_lt', cmp_gt', cmp_eq', b_0, b_1, wb_1, Int.reduceSub, Int.reduceToNat, List.getD_cons_succ, List.getD_cons_zero, Int.reduceLE, Int.reduceLT, Int.reduceEq, Int.reduceNeg, Int.reduceAdd, Int.reduceMul, and_self, em_b, ne_eq, not_false_eq_true, not_true_eq_false]
            try rfl
          · have es : nuS b n 0 ((kP c : Int) - 1) (k : Int) (.inl q2) = nuS b n 0 ((kP c : Int) - 1) (-1) (.inl q2) := by
              have n1 : nuO b n 0 ((kP c : Int) - 1) (k : Int) (.inl q2) = nuO b n 0 ((kP c : Int) - 1) (-1) (.inl q2) := by
                rw [nuO_30 v0, nuO_30 v0]
                by_cases w : 0 ≤ tkV b n q2 ∧ tkV b n q2 ≤ (kP c : Int) - 1
                · rw [if_pos ⟨w.1, w.2, z2⟩, if_pos ⟨w.1, w.2, by omega⟩]
                · rw [if_neg (fun y => w ⟨y.1, y.2.1⟩), if_neg (fun y => w ⟨y.1, y.2.1⟩)]
              unfold nuS
              rw [n1]
            rw [es] at hal ⊢
            obtain ⟨i4, w2, c1, c2, c4, c5⟩ := R_tk (h := h) (A := A) (lo := 0) (hi := (kP c : Int) - 1) hX hT hnb (by omega) (by omega) b1
            obtain ⟨c11, c11'⟩ := (rf_wr c1).2 hal
            refine ⟨i4, A, c1, fun z => absurd z hal, frI_w (frI_t a2 (frI_t b2 c2)) (by decide), frA_r, fun d Q hd => ?_⟩
            obtain ⟨d', rfl⟩ : ∃ d', d = d' + 1 := ⟨d - 1, by omega⟩
            generalize tkV b n q2 = V at *
            simp (disch := omega) only [e_189_0, e_189_1, e_189_4, e_189_5, e_189_6, e_189_7, e_189_10, e_189_11, e_189_12, e_189_13, e_189_14, e_189_17, e_189_18, e_189_19, e_189_21, e_189_24, e_189_27, e_189_28, e_189_31, e_189_32, e_189_40, e_189_41, e_189_42, e_189_43, e_189_46, e_189_47, e_189_48, e_189_49, e_189_50, e_189_53, e_189_54, e_189_55, e_189_58, e_189_61, r1, a3, b5, is, t10, c5, true_and, mdO_c, mdO_g0, mdO_k0, mdO_g1, mdO_k1, mdO_g2, mdO_k2, mdO_g3, mdO_k3, mdO_g4, mdO_k4, mdO_g5, mdO_k5, mdO_g6, mdO_k6, mdO_g7, mdO_k7, mdO_g8, mdO_k8, mdO_g9, mdO_k9, mdO_g10, mdO_k10, mdO_g11, mdO_k11, mdO_g12, mdO_k12, mdO_g13, mdO_k13, mdO_g14, mdO_k14, mdO_g15, mdO_k15, mdO_g16, mdO_k16, mdO_g17, mdO_k17, mdO_g18, mdO_k18, mdO_g19, mdO_k19, mdO_g20, mdO_k20, mdO_g21, mdO_k21, mdO_g22, mdO_k22, mdO_g23, mdO_k23, mdO_g24, mdO_k24, mdO_g25, mdO_k25, mdO_g26, mdO_k26, mdO_g27, mdO_k27, mdO_g28, mdO_k28, mdO_g29, mdO_k29, mdO_g30, mdO_k30, mdO_g31, mdO_k31, mdO_g32, mdO_k32, mdO_g33, mdO_k33, mdO_g34, mdO_k34, mdO_g35, mdO_k35, mdO_s0, mdO_s5, mdO_s6, mdO_s7, mdO_s8, mdO_s9, mdO_s10, mdO_s11, mdO_s12, mdO_s13, mdO_s14, mdO_s15, mdO_s19, mdO_s20, mdO_s25, mdO_s26, mdO_s31, mdO_s32, md_1, md_2, md_g71, md_g72, md_g73, md_g74, md_g75, md_g76, md_g77, md_g78, md_g79, md_g80, md_g81, md_g82, md_g83, md_g84, md_g85, md_g86, md_g87, md_g88, md_g89, md_out, md_u71, md_u72, md_u73, md_u74, md_u75, md_u76, md_u77, md_u78, md_u79, md_u80, md_u81, md_u82, md_u83, md_u84, md_u85, md_u86, md_u87, md_u88, md_u89, md_uo, iup_s, iup_n, aup_s, aup_n, ne_eq, not_false_eq_true, sh_0, sh_1, sh_2, sh_3, sh_4, sh_5, sh_8, sh_15, sh_16, sh_24, Int.reducePow, Int.cast_ofNat_Int, w_of, wl_of, ltT, ltF, leT, leF, eqT, eqF, okF_0, okF_s, gF_0, gF_s, consC_o, sF_0, sF_s, clsO_o, inA_i, ldA_i, stA_i, inJ_l, ldJ_l, stJ_l, inR_r, ldR_r, stR_r, tgR_r, lenA_i, lenA_l, lenA_r, lenA_ex, nl_i, nl_o, nl_l, nl_n, wd_n, wd_i, wd_l, wd_o, fit_i, fit_l, fit_o, K_v, K_n, true_and, and_true, Nat.reduceAdd, Nat.reduceLeDiff, Nat.reduceEqDiff, Nat.reduceMul, Nat.reduceLT, reduceIte, true_or, or_true, cmp_lt, cmp_gt, cmp_eq, wb_0, b_01, cmp_lt', cmp_gt', cmp_eq', b_0, b_1, wb_1, Int.reduceSub, Int.reduceToNat, List.getD_cons_succ, List.getD_cons_zero, Int.reduceLE, Int.reduceLT, Int.reduceEq, Int.reduceNeg, Int.reduceAdd, Int.reduceMul, and_self, em_b, ne_eq, not_false_eq_true, not_true_eq_false]
            try rfl
        · rw [if_neg z] at is
          have es : nuS b n 0 ((kP c : Int) - 1) (k : Int) (.inl q2) = nuS b n 0 ((kP c : Int) - 1) (-1) (.inl q2) := by
            have n1 : ∀ oth, nuO b n 0 ((kP c : Int) - 1) oth (.inl q2) = none := fun oth => if_neg (fun y => z (decide_eq_true y.1))
            unfold nuS
            rw [n1, n1]
          rw [es] at hal ⊢
          obtain ⟨i4, w2, c1, c2, c4, c5⟩ := R_tk (h := h) (A := A) (lo := 0) (hi := (kP c : Int) - 1) hX hT hnb (by omega) (by omega) b1
          obtain ⟨c11, c11'⟩ := (rf_wr c1).2 hal
          refine ⟨i4, A, c1, fun z => absurd z hal, frI_w (frI_t a2 (frI_t b2 c2)) (by decide), frA_r, fun d Q hd => ?_⟩
          obtain ⟨d', rfl⟩ : ∃ d', d = d' + 1 := ⟨d - 1, by omega⟩
          simp (disch := omega) only [e_189_0, e_189_1, e_189_4, e_189_5, e_189_6, e_189_7, e_189_10, e_189_11, e_189_12, e_189_13, e_189_14, e_189_17, e_189_18, e_189_19, e_189_21, e_189_24, e_189_40, e_189_41, e_189_42, e_189_43, e_189_46, e_189_47, e_189_48, e_189_49, e_189_50, e_189_53, e_189_54, e_189_55, e_189_58, e_189_61, r1, a3, b5, is, c5, true_and, mdO_c, mdO_g0, mdO_k0, mdO_g1, mdO_k1, mdO_g2, mdO_k2, mdO_g3, mdO_k3, mdO_g4, mdO_k4, mdO_g5, mdO_k5, mdO_g6, mdO_k6, mdO_g7, mdO_k7, mdO_g8, mdO_k8, mdO_g9, mdO_k9, mdO_g10, mdO_k10, mdO_g11, mdO_k11, mdO_g12, mdO_k12, mdO_g13, mdO_k13, mdO_g14, mdO_k14, mdO_g15, mdO_k15, mdO_g16, mdO_k16, mdO_g17, mdO_k17, mdO_g18, mdO_k18, mdO_g19, mdO_k19, mdO_g20, mdO_k20, mdO_g21, mdO_k21, mdO_g22, mdO_k22, mdO_g23, mdO_k23, mdO_g24, mdO_k24, mdO_g25, mdO_k25, mdO_g26, mdO_k26, mdO_g27, mdO_k27, mdO_g28, mdO_k28, mdO_g29, mdO_k29, mdO_g30, mdO_k30, mdO_g31, mdO_k31, mdO_g32, mdO_k32, mdO_g33, mdO_k33, mdO_g34, mdO_k34, mdO_g35, mdO_k35, mdO_s0, mdO_s5, mdO_s6, mdO_s7, mdO_s8, mdO_s9, mdO_s10, mdO_s11, mdO_s12, mdO_s13, mdO_s14, mdO_s15, mdO_s19, mdO_s20, mdO_s25, mdO_s26, mdO_s31, mdO_s32, md_1, md_2, md_g71, md_g72, md_g73, md_g74, md_g75, md_g76, md_g77, md_g78, md_g79, md_g80, md_g81, md_g82, md_g83, md_g84, md_g85, md_g86, md_g87, md_g88, md_g89, md_out, md_u71, md_u72, md_u73, md_u74, md_u75, md_u76, md_u77, md_u78, md_u79, md_u80, md_u81, md_u82, md_u83, md_u84, md_u85, md_u86, md_u87, md_u88, md_u89, md_uo, iup_s, iup_n, aup_s, aup_n, ne_eq, not_false_eq_true, sh_0, sh_1, sh_2, sh_3, sh_4, sh_5, sh_8, sh_15, sh_16, sh_24, Int.reducePow, Int.cast_ofNat_Int, w_of, wl_of, ltT, ltF, leT, leF, eqT, eqF, okF_0, okF_s, gF_0, gF_s, consC_o, sF_0, sF_s, clsO_o, inA_i, ldA_i, stA_i, inJ_l, ldJ_l, stJ_l, inR_r, ldR_r, stR_r, tgR_r, lenA_i, lenA_l, lenA_r, lenA_ex, nl_i, nl_o, nl_l, nl_n, wd_n, wd_i, wd_l, wd_o, fit_i, fit_l, fit_o, K_v, K_n, true_and, and_true, Nat.reduceAdd, Nat.reduceLeDiff, Nat.reduceEqDiff, Nat.reduceMul, Nat.reduceLT, reduceIte, true_or, or_true, cmp_lt, cmp_gt, cmp_eq, wb_0, b_01, cmp_lt', cmp_gt', cmp_eq', b_0, b_1, wb_1, Int.reduceSub, Int.reduceToNat, List.getD_cons_succ, List.getD_cons_zero, Int.reduceLE, Int.reduceLT, Int.reduceEq, Int.reduceNeg, Int.reduceAdd, Int.reduceMul, and_self, em_b, ne_eq, not_false_eq_true, not_true_eq_false]
          try rfl
end ln

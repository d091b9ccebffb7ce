/-! THE CLASS: Coming, searching on -/
def extO (ow : Nat → Nat) (h : PH) (ow' : Nat → Nat) (h' : PH) (T : List Nat) : Prop := h.1 ≤ h'.1 ∧ (∀ k, k < h.1 → ow' k = ow k) ∧ (∀ k, k < h.1 → ¬ ow k ∈ T → hp h' k = hp h k)
theorem ext_c {ow : Nat → Nat} {T : List Nat} {h h' : PH} (a : chg ow T h h') : extO ow h ow h' T := ⟨by rw [a.1]; exact Nat.le_refl _, fun _ _ => rfl, fun k _ hk => a.2.2 k hk⟩
theorem ext_r {ow : Nat → Nat} {T : List Nat} {h : PH} : extO ow h ow h T := ⟨Nat.le_refl _, fun _ _ => rfl, fun _ _ _ => rfl⟩
theorem ext_t {ow ow1 ow2 : Nat → Nat} {T : List Nat} {h h1 h2 : PH} (a : extO ow h ow1 h1 T) (b : extO ow1 h1 ow2 h2 T) : extO ow h ow2 h2 T := ⟨Nat.le_trans a.1 b.1, fun k hk => by rw [b.2.1 k (Nat.lt_of_lt_of_le hk a.1), a.2.1 k hk], fun k hk ht => by rw [b.2.2 k (Nat.lt_of_lt_of_le hk a.1) (by rw [a.2.1 k hk]; exact ht), a.2.2 k hk ht]⟩
theorem ext_w {ow ow' : Nat → Nat} {T U : List Nat} {h h' : PH} (a : extO ow h ow' h' T) (hs : ∀ t, t ∈ T → t ∈ U) : extO ow h ow' h' U := ⟨a.1, a.2.1, fun k hk ht => a.2.2 k hk (fun z => ht (hs _ z))⟩
theorem ext_F {ow ow' : Nat → Nat} {T : List Nat} {h h' : PH} (a : extO ow h ow' h' T) (hF : owF ow h) : owF ow' h' := ⟨Nat.le_trans hF.1 a.1, fun k hk => by rw [a.2.1 k (Nat.lt_of_lt_of_le hk hF.1)]; exact hF.2 k hk⟩
theorem KCty_e {ow ow' : Nat → Nat} {T : List Nat} {h h' : PH} {a : Nat} {c : KC} (hc : extO ow h ow' h' T) (ht : ¬ 0 ∈ T) (hC : KCty ow h a c) : KCty ow' h' a c := by
  obtain ⟨c1, c2, c3, c4, c5⟩ := hC
  have e0 : ∀ k, a ≤ k → k ≤ a + 6 → ow k = 0 := fun k k1 k2 => by
    have := c3 (k - a) (by omega)
    rwa [show a + (k - a) = k by omega] at this
  refine ⟨CtyAt_frame (fun k k1 k2 => hc.2.2 k (by omega) (by rw [e0 k k1 k2]; exact ht)) c1, c2, fun j hj => by rw [hc.2.1 _ (by omega)]; exact c3 j hj, c4, Nat.lt_of_lt_of_le c5 hc.1⟩
theorem HoP_e {ow ow' : Nat → Nat} {T : List Nat} {h h' : PH} {ca : Nat} {c : KC} {sky e : Nat} (hF : owF ow h) (hc : extO ow h ow' h' T) (h0 : ¬ 0 ∈ T) (h1 : ¬ 1 ∈ T) (hH : HoP ow h ca c sky e) : HoP ow' h' ca c sky e := by
  obtain ⟨i, A, a1, a2, a3, a4, a5, a6, a7, a8, a9⟩ := hH
  have h90 := hF.1
  have f := fun k (k1 : 27 ≤ k) (k2 : k ≤ 33) => hc.2.2 k (by omega) (by rw [tg_ho hF k1 k2]; exact h1)
  exact ⟨i, A, by rw [f 27 (by omega) (by omega)]; exact a1, by rw [f 28 (by omega) (by omega)]; exact a2, by rw [f 29 (by omega) (by omega)]; exact a3, by rw [f 30 (by omega) (by omega)]; exact a4, by rw [f 31 (by omega) (by omega)]; exact a5, by rw [f 32 (by omega) (by omega)]; exact a6, by rw [f 33 (by omega) (by omega)]; exact a7, a8, KCty_e hc h0 a9⟩
theorem tg_38 {ow : Nat → Nat} {h : PH} (hF : owF ow h) : ow 38 = 3 := hF.2 38 (by omega)
def comH (h : PH) (i : Nat → Int) (cca q g n : Nat) (fq fg : Int → Int) : Prop := hp h 38 = cmO i (vr cca) (vr q) (vr g) ∧ hp h q = aI 0 n fq ∧ hp h g = aI 0 n fg
def comW (ow : Nat → Nat) (h : PH) (q g n : Nat) : Prop := ow q = 3 ∧ ow g = 3 ∧ q ≠ g ∧ 38 < q ∧ 38 < g ∧ q < h.1 ∧ g < h.1 ∧ n ≤ 24000
/-- the arrays hold the list -/
def comQ (c : KC) (QL : List QE) (i : Nat → Int) (fq fg : Int → Int) (sr : Nat) : Prop := i 5 = (QL.length : Int) ∧ i 6 = (sr : Int) ∧ (∀ (j : Nat) (e : QE), QL[j]? = some e → fq j = encC c e.1) ∧ (∀ (j : Nat) (t : ST) (a d : Nat) (u : QE), QL[j]? = some (t, a, d) → QL[a]? = some u → fg (encC c t) = if j = 0 then -1 else ((encC c u.1 * 256 + d + 1 : Nat) : Int)) ∧ (∀ x, okS c x → ¬ seenQ QL QL.length x → fg (encC c x) = 0) ∧ (∀ k : Nat, fg k = 0 ∨ ∃ j : Nat, j < QL.length ∧ fq j = (k : Int))
theorem bfs_nd {c : KC} {sky : Nat} {s0 : ST} {QL : List QE} {sr p : Nat} (hK : okK c) (h : bfsI c sky s0 QL sr p) : ((QL.map (fun e => e.1)).map (encC c)).Nodup := by
  rw [List.nodup_iff_pairwise_ne, List.pairwise_iff_getElem]
  intro i j hi hj hij e
  simp only [List.length_map] at hi hj
  simp only [List.getElem_map] at e
  have := encC_inj hK (h.2.1 _ (List.getElem_mem hi)) (h.2.1 _ (List.getElem_mem hj)) e
  have := h.2.2.1 i j _ _ (List.getElem?_eq_getElem hi) (List.getElem?_eq_getElem hj) this
  omega
theorem bfs_len {c : KC} {sky : Nat} {s0 : ST} {QL : List QE} {sr p : Nat} (hK : okK c) (h : bfsI c sky s0 QL sr p) : QL.length ≤ szC c := by
  have := nodup_le (n := szC c) (bfs_nd hK h) (fun y hy => by
    obtain ⟨x, h1, h2⟩ := List.mem_map.mp hy
    obtain ⟨e, e1, e2⟩ := List.mem_map.mp h1
    rw [← h2, ← e2]; exact encC_lt hK (h.2.1 e e1))
  rw [List.length_map, List.length_map] at this
  exact this
theorem bfs_lt {c : KC} {sky : Nat} {s0 : ST} {QL : List QE} {sr p : Nat} {u : QE} {x : Nat × ST} (hK : okK c) (h : bfsI c sky s0 QL sr p) (hu : QL[sr]? = some u) (hx : (nx c sky u.1)[p]? = some x) (hs : ¬ seenQ QL QL.length x.2) : QL.length < szC c := by
  have := bfs_len hK (bfs_new h hu hx hs)
  rw [List.length_append] at this
  simp only [List.length_singleton] at this
  omega
theorem ior_256 {a d : Nat} (ha : a < 24000) (hd : d < 256) : ior ((a : Int) * 256) (d : Int) + 1 = ((a * 256 + d + 1 : Nat) : Int) := by
  have := ior_add (k := 8) (a := d) (b := a) (by omega) (by omega)
  have e2 : ((a * 2 ^ 8 : Nat) : Int) = (a : Int) * 256 := by omega
  rw [← e2, this]; omega
theorem comQ_new {c : KC} {sky : Nat} {s0 : ST} {QL : List QE} {sr p srI : Nat} {u : QE} {x : Nat × ST} {i : Nat → Int} {fq fg : Int → Int} (hK : okK c) (hb : bfsI c sky s0 QL sr p) (hQ : comQ c QL i fq fg srI) (hu : QL[sr]? = some u) (hx : (nx c sky u.1)[p]? = some x) (hs : ¬ seenQ QL QL.length x.2) : comQ c (QL ++ [(x.2, sr, x.1)]) (iup i 5 ((QL.length + 1 : Nat) : Int)) (fset fq (QL.length : Nat) (encC c x.2)) (fset fg (encC c x.2 : Nat) ((encC c u.1 * 256 + x.1 + 1 : Nat) : Int)) srI := by
  obtain ⟨q1, q2, q3, q4, q5, q6⟩ := hQ
  have hxo : okS c x.2 := nx_ok (hb.2.1 u (List.mem_of_getElem? hu)) (List.mem_of_getElem? hx)
  have hul := (List.getElem?_eq_some_iff.mp hu).1
  have last : ∀ (j : Nat) (e : QE), (QL ++ [(x.2, sr, x.1)])[j]? = some e → (j < QL.length ∧ QL[j]? = some e) ∨ (j = QL.length ∧ e = (x.2, sr, x.1)) := by
    intro j e he
    by_cases w : j < QL.length
    · rw [List.getElem?_append_left w] at he; exact Or.inl ⟨w, he⟩
    · have hl := (List.getElem?_eq_some_iff.mp he).1
      rw [List.length_append] at hl
      simp only [List.length_singleton] at hl
      have hj : j = QL.length := by omega
      rw [List.getElem?_append_right (by omega), hj, Nat.sub_self] at he
      cases he
      exact Or.inr ⟨hj, rfl⟩
  refine ⟨by rw [iup_s, List.length_append]; rfl, by rw [iup_n (by omega)]; exact q2, fun j e he => ?_, fun j t a d v he hv => ?_, fun z hz hn => ?_, fun k => ?_⟩
  · rcases last j e he with ⟨a1, a2⟩ | ⟨a1, a2⟩
    · rw [fs_ne (by omega)]; exact q3 j e a2
    · rw [a1, a2, fs_same]
  · rcases last j _ he with ⟨a1, a2⟩ | ⟨a1, a2⟩
    · have hto := hb.2.1 _ (List.mem_of_getElem? a2)
      have hne : encC c t ≠ encC c x.2 := fun z => hs ⟨j, _, a1, a2, encC_inj hK hto hxo z⟩
      rw [fs_ne (by omega)]
      rcases last a v hv with ⟨b1, b2⟩ | ⟨b1, b2⟩
      · exact q4 j t a d v a2 b2
      · by_cases hj0 : j = 0
        · subst hj0
          rw [hb.1] at a2
          cases a2
          omega
        · obtain ⟨w, pa, g1, -, -, g4, -⟩ := hb.2.2.2.1 j t a d (by omega) a2
          omega
    · cases a2
      rw [app_some hu] at hv
      cases hv
      rw [fs_same, if_neg (by omega)]
  · have n1 : ¬ seenQ QL QL.length z := fun w => hn (seenQ_le (seenQ_app w) (by rw [List.length_append]; omega))
    have n2 : z ≠ x.2 := fun w => hn ⟨QL.length, (x.2, sr, x.1), by simp, by simp, w.symm⟩
    rw [fs_ne (fun w => n2 (encC_inj hK hz hxo (by omega)))]
    exact q5 z hz n1
  · by_cases w : k = encC c x.2
    · right
      exact ⟨QL.length, by rw [List.length_append]; simp, by rw [fs_same, w]⟩
    · rw [fs_ne (by omega)]
      rcases q6 k with z | ⟨j, j1, j2⟩
      · exact Or.inl z
      · exact Or.inr ⟨j, by rw [List.length_append]; omega, by rw [fs_ne (by omega)]; exact j2⟩
theorem seen_at {c : KC} {sky : Nat} {s0 : ST} {QL : List QE} {sr p srI : Nat} {i : Nat → Int} {fq fg : Int → Int} {t : ST} (hK : okK c) (hb : bfsI c sky s0 QL sr p) (hQ : comQ c QL i fq fg srI) (hs : seenQ QL QL.length t) : ¬ fg (encC c t) = 0 ∧ -1 ≤ fg (encC c t) ∧ fg (encC c t) < 10000000 := by
  obtain ⟨j, e, h1, h2, h3⟩ := hs
  rw [← h3]
  by_cases q : j = 0
  · rw [q, hb.1] at h2
    have h2' : (s0, 0, 0) = e := Option.some.inj h2
    rw [← h2']
    have := hQ.2.2.2.1 0 s0 0 0 _ hb.1 hb.1
    rw [if_pos rfl] at this
    dsimp only
    omega
  · obtain ⟨u, pa, g1, g2, -⟩ := hb.2.2.2.1 j e.1 e.2.1 e.2.2 (by omega) h2
    have := hQ.2.2.2.1 j e.1 e.2.1 e.2.2 u h2 g1
    rw [if_neg q] at this
    have hd := nx_deed (List.mem_of_getElem? g2)
    have hu := encC_lt hK (hb.2.1 u (List.mem_of_getElem? g1))
    have := szC_le hK
    dsimp only at hd
    omega
theorem c_onLp {ow : Nat → Nat} {ca : Nat} {c : KC} {sky e sr : Nat} {s0 : ST} {u : QE} {q g n : Nat} {k : Int} {L : List (Nat × ST)} (hL : nx c sky u.1 = L) (hO : okC c) (hn : szC c ≤ n) (hk1 : 0 ≤ k) (hk2 : k < 100000) :
    ∀ (r p : Nat) (h : PH) (QL : List QE) (i : Nat → Int) (fq fg : Int → Int) (o5 : Option PV), p + r = L.length → owF ow h → HoP ow h ca c sky e → spr h ca c L → comH h i ca q g n fq fg → comW ow h q g n → comQ c QL i fq fg (sr + 1) → bfsI c sky s0 QL sr p → QL[sr]? = some u →
    ∃ (h' : PH) (QL' : List QE) (i' : Nat → Int) (fq' fg' : Int → Int), chg ow [3] h h' ∧ comH h' i' ca q g n fq' fg' ∧ comQ c QL' i' fq' fg' (sr + 1) ∧ bfsI c sky s0 QL' (sr + 1) 0 ∧ (∀ (j : Nat) e, QL[j]? = some e → QL'[j]? = some e) ∧ i' 1 = i 1 ∧ i' 2 = i 2 ∧ ∀ d Q, WP d 11 31 [some (vr 38), some (vr 27), some (vi k), some (vi (encC c u.1)), some (vi p), o5] [] h Q = Q none h' := by
  have hK := hO.1
  have h24 := szC_le hK
  intro r
  induction r with
  | zero =>
    intro p h QL i fq fg o5 hp hF hH hS hC hW hQ hb hu
    have hp' : p = L.length := by omega
    subst hp'
    have hb2 : bfsI c sky s0 QL sr (nx c sky u.1).length := by rw [hL]; exact hb
    obtain ⟨ii, f, g', a1, a2, a3, a4, a5⟩ := hS
    refine ⟨h, QL, i, fq, fg, chg_r, hC, hQ, bfs_next hb2 hu, fun _ _ z => z, rfl, rfl, fun d Q => ?_⟩
    have hl := nx_len (sky := sky) hO (hb.2.1 u (List.mem_of_getElem? hu))
    rw [hL] at hl
    rw [e_11_31]
    simp (disch := omega) only [e_11_33, e_11_34, e_11_37, e_11_119, a1, a2, cmO_c, cmO_g0, cmO_k0, cmO_g1, cmO_k1, cmO_g2, cmO_k2, cmO_g3, cmO_k3, cmO_g4, cmO_k4, cmO_g5, cmO_k5, cmO_g6, cmO_k6, cmO_s0, cmO_s1, cmO_s2, cmO_s3, cmO_s4, cmO_s5, cmO_s6, hoO_c, hoO_g0, hoO_k0, hoO_g1, hoO_k1, hoO_g2, hoO_k2, hoO_g3, hoO_k3, hoO_g4, hoO_k4, hoO_g5, hoO_k5, hoO_g6, hoO_k6, hoO_g7, hoO_k7, hoO_g8, hoO_k8, hoO_g9, hoO_k9, hoO_s0, hoO_s1, hoO_s2, hoO_s9, iup_s, iup_n, hp_up1, hp_upn, ne_eq, not_false_eq_true, sh_0, sh_1, sh_2, sh_3, sh_4, sh_5, sh_8, sh_15, sh_16, sh_24, Int.reducePow, Int.cast_ofNat_Int, w_of, wl_of, ltT, ltF, leT, leF, eqT, eqF, okF_0, okF_s, gF_0, gF_s, consC_o, sF_0, sF_s, clsO_o, inA_i, ldA_i, stA_i, inJ_l, ldJ_l, stJ_l, inR_r, ldR_r, stR_r, tgR_r, lenA_i, lenA_l, lenA_r, lenA_ex, nl_i, nl_o, nl_l, nl_n, wd_n, wd_i, wd_l, wd_o, fit_i, fit_l, fit_o, K_v, K_n, true_and, and_true, Nat.reduceAdd, Nat.reduceLeDiff, Nat.reduceEqDiff, Nat.reduceMul, Nat.reduceLT, reduceIte, true_or, or_true, cmp_lt, cmp_gt, cmp_eq, wb_0, b_01, cmp_lt', cmp_gt', cmp_eq', b_0, b_1, wb_1, Int.reduceSub, Int.reduceToNat, List.getD_cons_succ, List.getD_cons_zero, Int.reduceLE, Int.reduceLT, Int.reduceEq, Int.reduceNeg, Int.reduceAdd, Int.reduceMul, and_self, em_b, ne_eq, not_false_eq_true, not_true_eq_false]
  | succ r ih =>
    intro p h QL i fq fg o5 hp hF hH hS hC hW hQ hb hu
    have hS' := hS
    obtain ⟨ii, f, g', a1, a2, a3, a4, a5⟩ := hS
    obtain ⟨c1, c2, c3⟩ := hC
    obtain ⟨w1, w2, w3, w4, w5, w6, w7, w8⟩ := hW
    have huo := hb.2.1 u (List.mem_of_getElem? hu)
    have hl := nx_len (sky := sky) hO huo
    rw [hL] at hl
    have hx : L[p]? = some L[p] := List.getElem?_eq_getElem (by omega)
    generalize L[p] = x at hx
    obtain ⟨x1, x2⟩ := a5 p x hx
    rw [← hL] at hx
    have hxm := List.mem_of_getElem? hx
    have hxo := nx_ok huo hxm
    have hxd := nx_deed hxm
    have hxl := encC_lt hK hxo
    have hul := encC_lt hK huo
    have hql := bfs_len hK hb
    have q1 := hQ.1
    by_cases hs : seenQ QL QL.length x.2
    · obtain ⟨z1, z2, z3⟩ := seen_at hK hb hQ hs
      obtain ⟨h', QL', i', fq', fg', b1, b2, b3, b4, b5, b6, b7, b8⟩ := ih (p + 1) h QL i fq fg (some (vi (encC c x.2))) (by omega) hF hH hS' ⟨c1, c2, c3⟩ ⟨w1, w2, w3, w4, w5, w6, w7, w8⟩ hQ (bfs_old hb hu hx hs) hu
      refine ⟨h', QL', i', fq', fg', b1, b2, b3, b4, b5, b6, b7, fun d Q => ?_⟩
      rw [← b8 d Q]
      rw [e_11_31]
      simp (disch := omega) only [e_11_33, e_11_34, e_11_37, e_11_40, e_11_41, e_11_44, e_11_46, e_11_47, e_11_49, e_11_50, e_11_53, e_11_55, e_11_56, e_11_59, e_11_60, e_11_63, e_11_64, e_11_67, e_11_68, e_11_71, e_11_72, e_11_75, e_11_77, e_11_78, e_11_80, e_11_81, e_11_82, e_11_85, e_11_87, e_11_88, e_11_89, e_11_90, e_11_91, e_11_92, e_11_93, e_11_96, e_11_97, e_11_100, e_11_102, e_11_103, e_11_104i, e_11_104a, e_11_105, e_11_108, e_11_109, e_11_110, e_11_113, e_11_116, a1, a2, a4, x2, c1, c3, cmO_c, cmO_g0, cmO_k0, cmO_g1, cmO_k1, cmO_g2, cmO_k2, cmO_g3, cmO_k3, cmO_g4, cmO_k4, cmO_g5, cmO_k5, cmO_g6, cmO_k6, cmO_s0, cmO_s1, cmO_s2, cmO_s3, cmO_s4, cmO_s5, cmO_s6, hoO_c, hoO_g0, hoO_k0, hoO_g1, hoO_k1, hoO_g2, hoO_k2, hoO_g3, hoO_k3, hoO_g4, hoO_k4, hoO_g5, hoO_k5, hoO_g6, hoO_k6, hoO_g7, hoO_k7, hoO_g8, hoO_k8, hoO_g9, hoO_k9, hoO_s0, hoO_s1, hoO_s2, hoO_s9, iup_s, iup_n, hp_up1, hp_upn, ne_eq, not_false_eq_true, sh_0, sh_1, sh_2, sh_3, sh_4, sh_5, sh_8, sh_15, sh_16, sh_24, Int.reducePow, Int.cast_ofNat_Int, w_of, wl_of, ltT, ltF, leT, leF, eqT, eqF, okF_0, okF_s, gF_0, gF_s, consC_o, sF_0, sF_s, clsO_o, inA_i, ldA_i, stA_i, inJ_l, ldJ_l, stJ_l, inR_r, ldR_r, stR_r, tgR_r, lenA_i, lenA_l, lenA_r, lenA_ex, nl_i, nl_o, nl_l, nl_n, wd_n, wd_i, wd_l, wd_o, fit_i, fit_l, fit_o, K_v, K_n, true_and, and_true, Nat.reduceAdd, Nat.reduceLeDiff, Nat.reduceEqDiff, Nat.reduceMul, Nat.reduceLT, reduceIte, true_or, or_true, cmp_lt, cmp_gt, cmp_eq, wb_0, b_01, cmp_lt', cmp_gt', cmp_eq', b_0, b_1, wb_1, Int.reduceSub, Int.reduceToNat, List.getD_cons_succ, List.getD_cons_zero, Int.reduceLE, Int.reduceLT, Int.reduceEq, Int.reduceNeg, Int.reduceAdd, Int.reduceMul, and_self, em_b, ne_eq, not_false_eq_true, not_true_eq_false]
      try rfl
    · have hlt := bfs_lt hK hb hu hx hs
      have z1 := hQ.2.2.2.2.1 x.2 hxo hs
      have hch : chg ow [3] h (hup (hup (hup h g (aI 0 n (fset fg (encC c x.2 : Nat) ((encC c u.1 * 256 + x.1 + 1 : Nat) : Int)))) q (aI 0 n (fset fq (QL.length : Nat) (encC c x.2)))) 38 (cmO (iup i 5 ((QL.length + 1 : Nat) : Int)) (vr ca) (vr q) (vr g))) := chg_t (chg_t (chg_up w2 (by decide)) (chg_up w1 (by decide))) (chg_up (tg_38 hF) (by decide))
      obtain ⟨h', QL', i', fq', fg', b1, b2, b3, b4, b5, b6, b7, b8⟩ := ih (p + 1) (hup (hup (hup h g (aI 0 n (fset fg (encC c x.2 : Nat) ((encC c u.1 * 256 + x.1 + 1 : Nat) : Int)))) q (aI 0 n (fset fq (QL.length : Nat) (encC c x.2)))) 38 (cmO (iup i 5 ((QL.length + 1 : Nat) : Int)) (vr ca) (vr q) (vr g))) (QL ++ [(x.2, sr, x.1)]) (iup i 5 ((QL.length + 1 : Nat) : Int)) (fset fq (QL.length : Nat) (encC c x.2)) (fset fg (encC c x.2 : Nat) ((encC c u.1 * 256 + x.1 + 1 : Nat) : Int)) (some (vi (encC c x.2))) (by omega) (chg_F hch hF) (HoP_c hF hch (by decide) (by decide) hH) (spr_c hF hch (by decide) hS') ⟨hp_up1, by rw [hp_upn (by omega), hp_up1], by rw [hp_upn (by omega), hp_upn (by omega), hp_up1]⟩ ⟨w1, w2, w3, w4, w5, w6, w7, w8⟩ (comQ_new hK hb hQ hu hx hs) (bfs_new hb hu hx hs) (app_some hu)
      refine ⟨h', QL', i', fq', fg', chg_t hch b1, b2, b3, b4, fun j e hj => b5 j e (app_some hj), by rw [b6, iup_n (by omega)], by rw [b7, iup_n (by omega)], fun d Q => ?_⟩
      rw [← b8 d Q]
      have ei := ior_256 (a := encC c u.1) (d := x.1) (by omega) hxd
      have g10 : 10 ≤ g := by omega
      have q10 : 10 ≤ q := by omega
      have e5 : (QL.length : Int) + 1 = ((QL.length + 1 : Nat) : Int) := by omega
      rw [e_11_31]
      simp (disch := omega) only [e_11_33, e_11_34, e_11_37, e_11_40, e_11_41, e_11_44, e_11_46, e_11_47, e_11_49, e_11_50, e_11_53, e_11_55, e_11_56, e_11_59, e_11_60, e_11_63, e_11_64, e_11_67, e_11_68, e_11_71, e_11_72, e_11_75, e_11_77, e_11_78, e_11_80, e_11_81, e_11_82, e_11_85, e_11_87, e_11_88, e_11_89, e_11_90, e_11_91, e_11_92, e_11_93, e_11_96, e_11_97, e_11_100, e_11_102, e_11_103, e_11_104i, e_11_104a, e_11_105, e_11_108, e_11_109, e_11_110, e_11_113, e_11_116, a1, a2, a3, a4, x1, x2, c1, c2, c3, z1, q1, ei, e5, g10, q10, true_and, cmO_c, cmO_g0, cmO_k0, cmO_g1, cmO_k1, cmO_g2, cmO_k2, cmO_g3, cmO_k3, cmO_g4, cmO_k4, cmO_g5, cmO_k5, cmO_g6, cmO_k6, cmO_s0, cmO_s1, cmO_s2, cmO_s3, cmO_s4, cmO_s5, cmO_s6, hoO_c, hoO_g0, hoO_k0, hoO_g1, hoO_k1, hoO_g2, hoO_k2, hoO_g3, hoO_k3, hoO_g4, hoO_k4, hoO_g5, hoO_k5, hoO_g6, hoO_k6, hoO_g7, hoO_k7, hoO_g8, hoO_k8, hoO_g9, hoO_k9, hoO_s0, hoO_s1, hoO_s2, hoO_s9, iup_s, iup_n, hp_up1, hp_upn, ne_eq, not_false_eq_true, sh_0, sh_1, sh_2, sh_3, sh_4, sh_5, sh_8, sh_15, sh_16, sh_24, Int.reducePow, Int.cast_ofNat_Int, w_of, wl_of, ltT, ltF, leT, leF, eqT, eqF, okF_0, okF_s, gF_0, gF_s, consC_o, sF_0, sF_s, clsO_o, inA_i, ldA_i, stA_i, inJ_l, ldJ_l, stJ_l, inR_r, ldR_r, stR_r, tgR_r, lenA_i, lenA_l, lenA_r, lenA_ex, nl_i, nl_o, nl_l, nl_n, wd_n, wd_i, wd_l, wd_o, fit_i, fit_l, fit_o, K_v, K_n, true_and, and_true, Nat.reduceAdd, Nat.reduceLeDiff, Nat.reduceEqDiff, Nat.reduceMul, Nat.reduceLT, reduceIte, true_or, or_true, cmp_lt, cmp_gt, cmp_eq, wb_0, b_01, cmp_lt', cmp_gt', cmp_eq', b_0, b_1, wb_1, Int.reduceSub, Int.reduceToNat, List.getD_cons_succ, List.getD_cons_zero, Int.reduceLE, Int.reduceLT, Int.reduceEq, Int.reduceNeg, Int.reduceAdd, Int.reduceMul, and_self, em_b, ne_eq, not_false_eq_true, not_true_eq_false]
      try rfl

def chx (ow : Nat → Nat) (X : List Nat) (h h' : PH) : Prop := h'.1 = h.1 ∧ h'.2.1 = h.2.1 ∧ ∀ k, ow k ≠ 1 → ¬ k ∈ X → hp h' k = hp h k
theorem chx_r {ow : Nat → Nat} {X : List Nat} {h : PH} : chx ow X h h := ⟨rfl, rfl, fun _ _ _ => rfl⟩
theorem chx_t {ow : Nat → Nat} {X : List Nat} {h h1 h2 : PH} (a : chx ow X h h1) (b : chx ow X h1 h2) : chx ow X h h2 := ⟨by rw [b.1, a.1], by rw [b.2.1, a.2.1], fun k h1 h2 => by rw [b.2.2 k h1 h2, a.2.2 k h1 h2]⟩
theorem chx_w {ow : Nat → Nat} {X Y : List Nat} {h h' : PH} (a : chx ow X h h') (hs : ∀ t, t ∈ X → t ∈ Y) : chx ow Y h h' := ⟨a.1, a.2.1, fun k h1 h2 => a.2.2 k h1 (fun z => h2 (hs _ z))⟩
theorem chx_up {ow : Nat → Nat} {X : List Nat} {h : PH} {a : Nat} {c : PC} (ha : a ∈ X) : chx ow X h (hup h a c) := ⟨rfl, rfl, fun k _ hk => hp_upn (fun e => hk (by rw [e]; exact ha))⟩
theorem chx_c {ow : Nat → Nat} {X : List Nat} {h h' : PH} (a : chg ow [1] h h') : chx ow X h h' := ⟨a.1, a.2.1, fun k hk _ => a.2.2 k (fun z => hk (List.mem_singleton.mp z))⟩
theorem tg_41 {ow : Nat → Nat} {h : PH} (hF : owF ow h) : ow 41 = 4 := hF.2 41 (by omega)
theorem K_look {ow : Nat → Nat} {h : PH} {ca : Nat} {c : KC} {sky e b n kA : Nat} {s : ST} {kn : Int → Int} {P : List ST} {lf : Int} {i : Nat → Int} {cc wv : PV} (hF : owF ow h) (hH : HoP ow h ca c sky e) (hs : okS c s) (hb : lfO lf b) (hI : knI c sky b kn P) (hn : szC c ≤ n) (hkA : kA ≠ 41) (hko : ow kA ≠ 1) (h41 : hp h 41 = kpO i cc wv) (hkn : hp h kA = aI 0 n kn) :
    ∃ (v : Int) (i' : Nat → Int) (h' : PH), lkR c b kn (nx c sky s) v (i' 4) ∧ i' 2 = i 2 ∧ chx ow [41] h h' ∧ HoP ow h' ca c sky e ∧ hp h' 41 = kpO i' cc wv ∧ ∀ d Q, WP (d + 9) 54 0 [some (vr 41), some (vr 27), some (vr kA), some (vi (encC c s)), some (vi lf), none, none, none, none] [] h Q = Q (some (vi v)) h' := by
  obtain ⟨hO⟩ : Nonempty (okC c) := by obtain ⟨_, _, _, _, _, _, _, _, _, _, a9⟩ := hH; exact ⟨a9.2.1⟩
  obtain ⟨ih, hh27⟩ : ∃ i, hp h 27 = hoO i (vr ca) := by obtain ⟨i, A, a1, _⟩ := hH; exact ⟨i, a1⟩
  have hch : chg ow [4] h (hup h 41 (kpO (iup i 4 (-1)) cc wv)) := chg_up (tg_41 hF) (by decide)
  have hF1 := chg_F hch hF
  obtain ⟨h1, a1, a2, a3, a4⟩ := H_spread hF1 (HoP_c hF hch (by decide) (by decide) hH) hs
  have hKC : KCty ow h1 ca c := by obtain ⟨_, _, _, _, _, _, _, _, _, _, a9⟩ := a2; exact a9
  have e41 : hp h1 41 = kpO (iup i 4 (-1)) cc wv := by rw [chg_at a1 (tg_41 hF) (by decide), hp_up1]
  have ekn : hp h1 kA = aI 0 n kn := by rw [a1.2.2 kA (fun z => hko (List.mem_singleton.mp z)), hp_upn hkA]; exact hkn
  obtain ⟨v, i', b1, b2, b3⟩ := k_lookLp (x3 := (encC c s : Int)) rfl hO hs hb hI hn hkA (nx c sky s).length 0 h1 (iup i 4 (-1)) 0 none none (by omega) (chg_F a1 hF1) hKC a3 e41 ekn (by rw [iup_s]; exact lk_0) (by omega)
  have hch2 : chg ow [4] h1 (hup h1 41 (kpO i' cc wv)) := chg_up (tg_41 hF) (by decide)
  refine ⟨v, i', hup h1 41 (kpO i' cc wv), b1, by rw [b2, iup_n (by omega)], chx_t (chx_t (chx_up (by simp)) (chx_c a1)) (chx_up (by simp)), HoP_c (chg_F a1 hF1) hch2 (by decide) (by decide) a2, hp_up1, fun d Q => ?_⟩
  have b3' := b3 (d + 6) Q
  rw [nc0] at b3'
  rw [← b3']
  have a4' := fun (Q : PQ) => a4 d Q
  simp (disch := omega) only [e_54_0, e_54_1, e_54_2, e_54_5, e_54_6, e_54_8, e_54_9, e_54_10, e_54_13, e_54_14, h41, hh27, a4', true_and, kpO_c, kpO_g0, kpO_k0, kpO_g1, kpO_k1, kpO_s1, kpO_g2, kpO_k2, kpO_s2, kpO_g3, kpO_k3, kpO_s3, kpO_g4, kpO_k4, kpO_s4, kpO_g5, kpO_k5, kpO_g6, kpO_k6, dkO_c, dkO_g0, dkO_k0, dkO_s0, dkO_g1, dkO_k1, dkO_s1, dkO_g2, dkO_k2, dkO_s2, hoO_c, hoO_g0, hoO_k0, hoO_s0, hoO_g1, hoO_k1, hoO_s1, hoO_g2, hoO_k2, hoO_s2, hoO_g3, hoO_k3, hoO_g4, hoO_k4, hoO_g5, hoO_k5, hoO_g6, hoO_k6, hoO_g7, hoO_k7, hoO_g8, hoO_k8, hoO_g9, hoO_k9, hoO_s9, iup_s, iup_n, hp_up1, hp_upn, ne_eq, not_false_eq_true, sh_0, sh_1, sh_2, sh_3, sh_4, sh_5, sh_8, sh_15, sh_16, sh_24, Int.reducePow, Int.cast_ofNat_Int, w_of, wl_of, ltT, ltF, leT, leF, eqT, eqF, okF_0, okF_s, gF_0, gF_s, consC_o, sF_0, sF_s, clsO_o, inA_i, ldA_i, stA_i, inJ_l, ldJ_l, stJ_l, inR_r, ldR_r, stR_r, tgR_r, lenA_i, lenA_l, lenA_r, lenA_ex, nl_i, nl_o, nl_l, nl_n, wd_n, wd_i, wd_l, wd_o, fit_i, fit_l, fit_o, K_v, K_n, true_and, and_true, Nat.reduceAdd, Nat.reduceLeDiff, Nat.reduceEqDiff, Nat.reduceMul, Nat.reduceLT, reduceIte, true_or, or_true, cmp_lt, cmp_gt, cmp_eq, wb_0, b_01, cmp_lt', cmp_gt', cmp_eq', b_0, b_1, wb_1, Int.reduceSub, Int.reduceToNat, List.getD_cons_succ, List.getD_cons_zero, Int.reduceLE, Int.reduceLT, Int.reduceEq, Int.reduceNeg, Int.reduceAdd, Int.reduceMul, and_self, em_b, ne_eq, not_false_eq_true, not_true_eq_false]
  try rfl
theorem lk_val {c : KC} {sky b : Nat} {s : ST} {kn : Int → Int} {P : List ST} {most : Nat} (hs : okS c s) (hI : knI c sky b kn P) (hl : lkI c b kn (nx c sky s) (nx c sky s).length most (-1)) : valS c sky b s most := by
  obtain ⟨h1, h2, h3⟩ := hl
  have h3' : ∀ (k : Nat) x, k < (nx c sky s).length → (nx c sky s)[k]? = some x → gdX c b x → kn (encC c x.2) ≠ 0 := by
    rcases h3 with ⟨-, z⟩ | ⟨k, x, -, -, -, -, z⟩
    · exact z
    · omega
  have val : ∀ x, x ∈ en c sky b s → ∃ v : Nat, kn (encC c x.2) = ((v + 1 : Nat) : Int) ∧ valS c sky b x.2 v ∧ v + 1 ≤ most := by
    intro x hx
    obtain ⟨x1, x2, x3⟩ := en_mem.mp hx
    obtain ⟨k, hk⟩ := List.getElem?_of_mem x1
    have hkl := (List.getElem?_eq_some_iff.mp hk).1
    obtain ⟨n1, n2, n3⟩ := h1 k x hkl hk ⟨x2, x3⟩
    have n4 := h3' k x hkl hk ⟨x2, x3⟩
    rcases hI x.2 (nx_ok hs x1) with ⟨z, -⟩ | ⟨z, -⟩ | ⟨z, -⟩ | ⟨v, z, z2, -⟩
    · exact absurd z n4
    · exact absurd z n1
    · exact absurd z n2
    · exact ⟨v, z, z2, by omega⟩
  constructor
  · rcases h2 with z | ⟨k, x, hkl, hk, hg, z⟩
    · rw [z]; trivial
    · have hx : x ∈ en c sky b s := en_mem.mpr ⟨List.mem_of_getElem? hk, hg.1, hg.2⟩
      obtain ⟨v, v1, v2, v3⟩ := val x hx
      have : most = v + 1 := by omega
      rw [this]
      exact surv_s.mpr ⟨x, hx, v2.1⟩
  · intro hsv
    obtain ⟨x, hx, hx2⟩ := surv_s.mp hsv
    obtain ⟨v, v1, v2, v3⟩ := val x hx
    exact v2.2 (surv_le v3 hx2)
theorem lk_unk {c : KC} {sky b : Nat} {s : ST} {kn : Int → Int} {most : Nat} {un : Int} (hl : lkI c b kn (nx c sky s) (nx c sky s).length most un) (hu : un ≠ -1) : ∃ x, x ∈ en c sky b s ∧ kn (encC c x.2) = 0 ∧ un = (encC c x.2 : Int) := by
  rcases hl.2.2 with ⟨z, -⟩ | ⟨k, x, -, hk, hg, z1, z2⟩
  · exact absurd z hu
  · exact ⟨x, en_mem.mpr ⟨List.mem_of_getElem? hk, hg.1, hg.2⟩, z1, z2⟩
/-- each on the path leads to the next -/
def chn (c : KC) (sky b : Nat) (P : List ST) : Prop := ∀ (j : Nat) s t, P[j]? = some s → P[j + 1]? = some t → ∃ x, x ∈ en c sky b s ∧ x.2 = t
/-- all on the path is endless -/
theorem chn_endl {c : KC} {sky b : Nat} {P : List ST} {s : ST} {kn : Int → Int} {x : Nat × ST} (hc : chn c sky b (P ++ [s])) (hK : okK c) (hok : ∀ t, t ∈ P ++ [s] → okS c t) (hI : knI c sky b kn (P ++ [s])) (hx : x ∈ nx c sky s) (hg : gdX c b x) (hk : kn (encC c x.2) = -1 ∨ kn (encC c x.2) = 2147483647) : ∀ t, t ∈ P ++ [s] → endl c sky b t := by
  refine endl_of (U := fun t => t ∈ P ++ [s]) (fun t ht => ?_)
  obtain ⟨j, hj⟩ := List.getElem?_of_mem ht
  have hjl := (List.getElem?_eq_some_iff.mp hj).1
  rw [List.length_append] at hjl
  simp only [List.length_singleton] at hjl
  by_cases z : j = P.length
  · rw [z, List.getElem?_append_right (Nat.le_refl _), Nat.sub_self] at hj
    have hts : t = s := by cases hj; rfl
    rw [hts]
    have hso := hok s (by simp)
    refine ⟨x, en_mem.mpr ⟨hx, hg.1, hg.2⟩, ?_⟩
    rcases hI x.2 (nx_ok hso hx) with ⟨w, -⟩ | ⟨w, w2⟩ | ⟨w, w2, -⟩ | ⟨v, w, w2, -⟩
    · omega
    · exact Or.inl w2
    · exact Or.inr w2
    · skip
      have := valS_lt hK (nx_ok hso hx) w2
      have := szC_le hK
      omega
  · have hlt : j + 1 < (P ++ [s]).length := by rw [List.length_append]; simp only [List.length_singleton]; omega
    obtain ⟨t', hnx⟩ : ∃ t', (P ++ [s])[j + 1]? = some t' := ⟨_, List.getElem?_eq_getElem hlt⟩
    obtain ⟨y, y1, y2⟩ := hc j t t' hj hnx
    refine ⟨y, y1, Or.inl ?_⟩
    show y.2 ∈ P ++ [s]
    rw [y2]
    exact List.mem_of_getElem? hnx

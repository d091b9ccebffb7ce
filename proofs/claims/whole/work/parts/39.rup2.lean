/-! THE REFERENCE: laysUp -/
noncomputable def mxU (f : Nat → Int) : Nat → Int
  | 0 => 0
  | m + 1 => if mxU f m < f m then f m else mxU f m
theorem mxU_ge {f : Nat → Int} : ∀ {n : Nat}, 0 ≤ mxU f n ∧ ∀ m, m < n → f m ≤ mxU f n
  | 0 => ⟨Int.le_refl _, fun m hm => absurd hm (by omega)⟩
  | n + 1 => by
    obtain ⟨h1, h2⟩ := mxU_ge (f := f) (n := n)
    have e : mxU f (n + 1) = if mxU f n < f n then f n else mxU f n := rfl
    rw [e]
    refine ⟨by split <;> omega, fun m hm => ?_⟩
    by_cases q : m = n
    · subst q; split <;> omega
    · have := h2 m (by omega); split <;> omega
theorem mxU_ex {f : Nat → Int} : ∀ {n : Nat}, mxU f n = 0 ∨ ∃ m, m < n ∧ mxU f n = f m
  | 0 => Or.inl rfl
  | n + 1 => by
    have e : mxU f (n + 1) = if mxU f n < f n then f n else mxU f n := rfl
    rw [e]
    by_cases q : mxU f n < f n
    · rw [if_pos q]; exact Or.inr ⟨n, by omega, rfl⟩
    · rw [if_neg q]
      rcases mxU_ex (f := f) (n := n) with h | ⟨m, h1, h2⟩
      · exact Or.inl h
      · exact Or.inr ⟨m, by omega, h2⟩
/-- what the numbers of stands tell, exact or not known yet -/
def fnOK (c : KC) (sky nb N : Nat) (L : List ST) (fn : ST → Int) : Prop := ∀ u, u ∈ L → (fn u = 268435456 ∧ sv c sky nb N u) ∨ ∃ v : Nat, fn u = v ∧ v < 24000 ∧ valV c sky nb u v ∧ (nb = 0 ∨ v < N)
def clsM (c : KC) (sky nb : Nat) (L : List ST) (x : ST) : Prop := ∀ m, m < 19 → canM c sky x m = true → toM c sky x m ∈ L ∧ ∀ p, p < nb → weakS (toM c sky x m) p ∈ L
theorem upV_cases {c : KC} {sky nb N : Nat} {L : List ST} {fn : ST → Int} {x : ST} {m : Nat} (hf : fnOK c sky nb N L fn) (hc : clsM c sky nb L x) (hm : m < 19) :
    (upV c sky nb fn x m = -1 ∧ ¬ (canM c sky x m = true ∧ downB c (toM c sky x m) = false ∧ ∀ p, p < nb → downB c (weakS (toM c sky x m) p) = false)) ∨
    ((canM c sky x m = true ∧ downB c (toM c sky x m) = false ∧ ∀ p, p < nb → downB c (weakS (toM c sky x m) p) = false) ∧ ((upV c sky nb fn x m = 268435456 ∧ fn (toM c sky x m) = 268435456 ∧ ∀ p, p < nb → fn (weakS (toM c sky x m) p) = 268435456) ∨
      ∃ v : Nat, v < 24000 ∧ upV c sky nb fn x m = ((v + 1 : Nat) : Int) ∧ (nb = 0 ∨ v < N) ∧ (∃ u, (u = toM c sky x m ∨ ∃ p, p < nb ∧ u = weakS (toM c sky x m) p) ∧ valV c sky nb u v) ∧ sv c sky nb v (toM c sky x m) ∧ ∀ p, p < nb → sv c sky nb v (weakS (toM c sky x m) p))) := by
  unfold upV
  by_cases h1 : canM c sky x m = true
  · obtain ⟨hy, hw⟩ := hc m hm h1
    rw [h1, Bool.true_and]
    generalize toM c sky x m = y at *
    by_cases h2 : upsTo c y nb = true
    · rw [if_pos h2]
      obtain ⟨u1, u2⟩ := upsTo_iff.mp h2
      refine Or.inr ⟨⟨rfl, u1, u2⟩, ?_⟩
      have hl := lst_le (fn := fn) (t := y) (n := nb)
      have hb : ∀ u, u ∈ L → 0 ≤ fn u ∧ fn u ≤ 268435456 := fun u hu => by
        rcases hf u hu with ⟨h, -⟩ | ⟨v, h, h', -⟩ <;> omega
      by_cases h3 : lst fn y nb = 268435456
      · rw [if_pos h3]
        refine Or.inl ⟨rfl, ?_, fun p hp => ?_⟩
        · have := hb y hy; have := hl.1; omega
        · have := hb _ (hw p hp); have := hl.2 p hp; omega
      · rw [if_neg h3]
        have hex : ∃ u, (u = y ∨ ∃ p, p < nb ∧ u = weakS y p) ∧ lst fn y nb = fn u ∧ u ∈ L := by
          rcases lst_ex (fn := fn) (t := y) (n := nb) with h | ⟨p, hp, h⟩
          · exact ⟨y, Or.inl rfl, h, hy⟩
          · exact ⟨_, Or.inr ⟨p, hp, rfl⟩, h, hw p hp⟩
        obtain ⟨u, hu1, hu2, hu3⟩ := hex
        rcases hf u hu3 with ⟨h, -⟩ | ⟨v, e1, e2, e3, e4⟩
        · exact absurd (hu2.trans h) h3
        · have key : ∀ w, w ∈ L → (nb = 0 → w = y) → lst fn y nb ≤ fn w → sv c sky nb v w := by
            intro w hw1 hw2 hw3
            rcases hf w hw1 with ⟨g1, g2⟩ | ⟨v', g1, g2, g3, g4⟩
            · rcases e4 with z | z
              · have hwy := hw2 z
                subst z
                rcases hu1 with q | ⟨p, hp, -⟩
                · rw [← hwy] at q; subst q; omega
                · omega
              · exact sv_le (by omega) g2
            · exact sv_le (by omega) g3.1
          refine Or.inr ⟨v, e2, by rw [hu2, e1]; rfl, e4, ⟨u, hu1, e3⟩, key y hy (fun _ => rfl) hl.1, fun p hp => key _ (hw p hp) (fun z => by omega) (hl.2 p hp)⟩
    · rw [if_neg h2]
      refine Or.inl ⟨rfl, fun z => h2 (upsTo_iff.mpr ⟨z.2.1, z.2.2⟩)⟩
  · refine Or.inl ⟨?_, fun z => h1 z.1⟩
    have : canM c sky x m = false := by simpa using h1
    rw [this]; rfl
theorem most_val {c : KC} {sky nb N : Nat} {L : List ST} {fn : ST → Int} {x : ST} (hf : fnOK c sky nb N L fn) (hc : clsM c sky nb L x) (h : mxU (upV c sky nb fn x) 19 ≠ 268435456) :
    ∃ v : Nat, mxU (upV c sky nb fn x) 19 = v ∧ v ≤ 24000 ∧ valV c sky nb x v ∧ (nb = 0 ∨ v ≤ N) := by
  obtain ⟨g1, g2⟩ := mxU_ge (f := upV c sky nb fn x) (n := 19)
  have nofar : ∀ m, m < 19 → ¬ upV c sky nb fn x m = 268435456 := fun m hm z => by
    have h1 := g2 m hm
    rcases mxU_ex (f := upV c sky nb fn x) (n := 19) with e | ⟨k, hk, e⟩
    · omega
    · rcases upV_cases hf hc hk with ⟨w, -⟩ | ⟨-, ⟨w, -, -⟩ | ⟨v, w1, w, -⟩⟩ <;> omega
  have neg : ∀ v : Nat, mxU (upV c sky nb fn x) 19 = v → ¬ sv c sky nb (v + 1) x := by
    intro v hv hs
    obtain ⟨m, h1, h2, h3, h4⟩ := sv_s.mp hs
    rcases upV_cases hf hc h1 with ⟨-, w⟩ | ⟨-, ⟨w, -, -⟩ | ⟨v', w0, w1, w2, ⟨u, hu, hval⟩, -, -⟩⟩
    · exact w ⟨h2, h3.1, fun p hp => (h4 p hp).1⟩
    · exact nofar m h1 w
    · have := g2 m h1
      have hle : v' + 1 ≤ v := by omega
      rcases hu with q | ⟨p, hp, q⟩
      · subst q; exact hval.2 (sv_le hle h3.2)
      · subst q; exact hval.2 (sv_le hle (h4 p hp).2)
  rcases mxU_ex (f := upV c sky nb fn x) (n := 19) with e | ⟨k, hk, e⟩
  · exact ⟨0, by rw [e]; rfl, by omega, ⟨trivial, neg 0 (by rw [e]; rfl)⟩, by omega⟩
  · rcases upV_cases hf hc hk with ⟨w, -⟩ | ⟨hop, ⟨w, -, -⟩ | ⟨v', w0, w1, w2, -, s1, s2⟩⟩
    · exact absurd w (by omega)
    · exact absurd w (nofar k hk)
    · refine ⟨v' + 1, by rw [e, w1], by omega, ⟨sv_s.mpr ⟨k, hk, hop.1, ⟨hop.2.1, s1⟩, fun p hp => ⟨hop.2.2 p hp, s2 p hp⟩⟩, neg _ (by rw [e, w1])⟩, ?_⟩
      rcases w2 with z | z
      · exact Or.inl z
      · exact Or.inr (by omega)
theorem most_far {c : KC} {sky nb N : Nat} {L : List ST} {fn : ST → Int} {x : ST} (hf : fnOK c sky nb N L fn) (hc : clsM c sky nb L x) (h : mxU (upV c sky nb fn x) 19 = 268435456) :
    ∃ m, m < 19 ∧ canM c sky x m = true ∧ (downB c (toM c sky x m) = false ∧ fn (toM c sky x m) = 268435456) ∧ ∀ p, p < nb → downB c (weakS (toM c sky x m) p) = false ∧ fn (weakS (toM c sky x m) p) = 268435456 := by
  rcases mxU_ex (f := upV c sky nb fn x) (n := 19) with e | ⟨k, hk, e⟩
  · rw [e] at h; exact absurd h (by decide)
  · rcases upV_cases hf hc hk with ⟨w, -⟩ | ⟨hop, ⟨w, w1, w2⟩ | ⟨v, w0, w1, -⟩⟩
    · omega
    · exact ⟨k, hk, hop.1, ⟨hop.2.1, w1⟩, fun p hp => ⟨hop.2.2 p hp, w2 p hp⟩⟩
    · omega
def nF (f : Int → Int) : Nat → Nat
  | 0 => 0
  | n + 1 => nF f n + (if f (n : Int) = 268435456 then 1 else 0)
theorem nF_le {f : Int → Int} : ∀ {n : Nat}, nF f n ≤ n
  | 0 => Nat.le_refl _
  | n + 1 => by have := nF_le (f := f) (n := n); show nF f n + _ ≤ _; split <;> omega
theorem nF_congr {f g : Int → Int} : ∀ {n : Nat}, (∀ j : Nat, j < n → g j = f j) → nF g n = nF f n
  | 0, _ => rfl
  | n + 1, h => by show nF g n + _ = nF f n + _; rw [nF_congr (fun j hj => h j (by omega)), h n (by omega)]
theorem nF_set {f : Int → Int} {k : Nat} {v : Int} (hv : v ≠ 268435456) (hk : f k = 268435456) : ∀ {n : Nat}, k < n → nF (fset f k v) n + 1 = nF f n
  | 0, h => absurd h (by omega)
  | n + 1, h => by
    show nF (fset f k v) n + (if fset f k v n = 268435456 then 1 else 0) + 1 = nF f n + (if f n = 268435456 then 1 else 0)
    by_cases q : k = n
    · subst q
      rw [nF_congr (f := f) (fun j hj => fs_ne (by omega)), fs_same, if_neg hv, if_pos hk]
    · have := nF_set hv hk (n := n) (by omega)
      rw [fs_ne (by omega)]
      omega
theorem laid_cls {c : KC} {sky : Nat} {bt : Bool} {s : ST} {L : List ST} {i : Nat → Int} {A : Nat → Int → Int} (hK : okK c) (hL : laidR c sky 3 bt s L i A) {x : ST} (hx : x ∈ L) : clsM c sky (if bt then kN c else 0) L x := by
  intro m hm hc
  obtain ⟨k, hk⟩ := List.getElem?_of_mem hx
  rcases hL.2.2.1 k m (List.getElem?_eq_some_iff.mp hk).1 hm x hk with ⟨-, t, -, h2, h3⟩ | ⟨h1, -⟩
  · refine ⟨List.mem_of_getElem? h2, fun p hp => ?_⟩
    cases bt with
    | false => exact absurd hp (by simp)
    | true => exact h3 rfl p hp
  · rw [alwM_3 hK, hc] at h1; cases h1
theorem laidR_x {c : KC} {sky b : Nat} {bt : Bool} {s : ST} {L : List ST} {i j : Nat → Int} {A B : Nat → Int → Int} (h : laidR c sky b bt s L i A) (e25 : j 25 = i 25) (h1 : B 79 = A 79) (h2 : B 82 = A 82) (h3 : B 80 = A 80) : laidR c sky b bt s L j B := by
  obtain ⟨⟨a1, a2, a3, a4⟩, b2, b3, b4⟩ := h
  refine ⟨⟨by rw [e25]; exact a1, a2, by rw [h1, h2]; exact a3, by rw [h2]; exact a4⟩, b2, fun j m hj hm => ?_, b4⟩
  intro x hx
  rw [h3]
  exact b3 j m hj hm x hx
/-- in a round: those ahead of k are looked at -/
def rndI (c : KC) (sky nb N k : Nat) (bt : Bool) (L : List ST) (f : Int → Int) : Prop := ∀ (j : Nat) x, L[j]? = some x → (f j = 268435456 ∧ (bt = true → sv c sky nb (if j < k then N + 1 else N) x)) ∨ ∃ v : Nat, f j = v ∧ v < 24000 ∧ valV c sky nb x v ∧ (bt = true → v ≤ N)
def rndC (c : KC) (sky nb k : Nat) (L : List ST) (i : Nat → Int) (A : Nat → Int → Int) : Prop := ∀ (j : Nat) x, j < k → L[j]? = some x → A 81 j = 268435456 → ∃ m, m < 19 ∧ canM c sky x m = true ∧ (downB c (toM c sky x m) = false ∧ fnw i A (toM c sky x m) = 268435456) ∧ ∀ p, p < nb → downB c (weakS (toM c sky x m) p) = false ∧ fnw i A (weakS (toM c sky x m) p) = 268435456
theorem rndI_fn {c : KC} {sky N k : Nat} {bt : Bool} {L : List ST} {i : Nat → Int} {A : Nat → Int → Int} (hS : stkR c L i A) (hI : rndI c sky (if bt then kN c else 0) N k bt L (A 81)) (hr : i 26 = if bt then (N : Int) else 268435456) (hN : N ≤ 24000) (hkn : bt = true → kN c ≠ 0) : fnOK c sky (if bt then kN c else 0) (if bt then N else 0) L (fnw i A) := by
  intro u hu
  obtain ⟨j, hj⟩ := List.getElem?_of_mem hu
  rw [fnw_at hS hj, hr]
  cases bt with
  | false =>
    simp only [if_false, Bool.false_eq_true]
    rcases hI j u hj with ⟨h1, -⟩ | ⟨v, h1, h2, h3, -⟩
    · left; rw [h1]; exact ⟨rfl, trivial⟩
    · right; rw [h1, if_pos (by omega)]; exact ⟨v, rfl, h2, h3, by simp⟩
  | true =>
    simp only [if_true]
    rcases hI j u hj with ⟨h1, h2⟩ | ⟨v, h1, h2, h3, h4⟩
    · left
      rw [h1, if_neg (by omega)]
      refine ⟨rfl, ?_⟩
      have h5 : sv c sky (kN c) (if j < k then N + 1 else N) u := h2 rfl
      by_cases hjk : j < k
      · rw [if_pos hjk] at h5; exact sv_mono _ _ h5
      · rw [if_neg hjk] at h5; exact h5
    · by_cases q : v < N
      · right; rw [h1, if_pos (by omega)]; exact ⟨v, rfl, h2, h3, Or.inr q⟩
      · left
        have := h4 rfl
        rw [h1, if_neg (by omega)]
        have e : v = N := by omega
        subst e
        exact ⟨rfl, h3.1⟩
theorem r_upMx {h : PH} {i : Nat → Int} {A : Nat → Int → Int} {c : KC} {sky k : Nat} {bt : Bool} {s x : ST} {L : List ST} {l2 l3 : Option PV} (hO : okC c) (hR : ctyR (A 72) c) (hL : laidR c sky 3 bt s L i A) (hB : farB L i A) (hx : L[k]? = some x) (hF : A 81 k = 268435456) (hu : ∀ m, m < 19 → -1 ≤ upV c sky (if bt then kN c else 0) (fnw i A) x m ∧ upV c sky (if bt then kN c else 0) (fnw i A) x m ≤ 268435456) :
    ∀ (r m : Nat), m + r = 19 → ∀ d Q, WP (d + 4) 247 72 [some (vr 71), some (vi (if bt then 1 else 0)), l2, l3, some (vi k), some (vi (mxU (upV c sky (if bt then kN c else 0) (fnw i A) x) m)), some (vi m)] [] (mdH h i A) Q = WP (d + 4) 247 127 [some (vr 71), some (vi (if bt then 1 else 0)), l2, l3, some (vi k), some (vi (mxU (upV c sky (if bt then kN c else 0) (fnw i A) x) 19)), some (vi 19)] [] (mdH h i A) Q := by
  have hkl := (List.getElem?_eq_some_iff.mp hx).1
  have hlen := stkR_len hO.1 hL.1
  intro r
  induction r with
  | zero =>
    intro m hm d Q
    have hm' : m = 19 := by omega
    subst hm'
    rw [e_247_72]
    simp (disch := omega) only [e_247_74, e_247_76, mdO_c, mdO_g0, mdO_k0, mdO_g1, mdO_k1, mdO_g2, mdO_k2, mdO_g3, mdO_k3, mdO_g4, mdO_k4, mdO_g5, mdO_k5, mdO_g6, mdO_k6, mdO_g7, mdO_k7, mdO_g8, mdO_k8, mdO_g9, mdO_k9, mdO_g10, mdO_k10, mdO_g11, mdO_k11, mdO_g12, mdO_k12, mdO_g13, mdO_k13, mdO_g14, mdO_k14, mdO_g15, mdO_k15, mdO_g16, mdO_k16, mdO_g17, mdO_k17, mdO_g18, mdO_k18, mdO_g19, mdO_k19, mdO_g20, mdO_k20, mdO_g21, mdO_k21, mdO_g22, mdO_k22, mdO_g23, mdO_k23, mdO_g24, mdO_k24, mdO_g25, mdO_k25, mdO_g26, mdO_k26, mdO_g27, mdO_k27, mdO_g28, mdO_k28, mdO_g29, mdO_k29, mdO_g30, mdO_k30, mdO_g31, mdO_k31, mdO_g32, mdO_k32, mdO_g33, mdO_k33, mdO_g34, mdO_k34, mdO_g35, mdO_k35, mdO_s0, mdO_s5, mdO_s6, mdO_s7, mdO_s8, mdO_s9, mdO_s10, mdO_s11, mdO_s12, mdO_s13, mdO_s14, mdO_s15, mdO_s19, mdO_s20, mdO_s25, mdO_s26, mdO_s31, mdO_s32, md_1, md_2, md_g71, md_g72, md_g73, md_g74, md_g75, md_g76, md_g77, md_g78, md_g79, md_g80, md_g81, md_g82, md_g83, md_g84, md_g85, md_g86, md_g87, md_g88, md_g89, md_out, md_u71, md_u72, md_u73, md_u74, md_u75, md_u76, md_u77, md_u78, md_u79, md_u80, md_u81, md_u82, md_u83, md_u84, md_u85, md_u86, md_u87, md_u88, md_u89, md_uo, iup_s, iup_n, aup_s, aup_n, ne_eq, not_false_eq_true, sh_0, sh_1, sh_2, sh_3, sh_4, sh_5, sh_8, sh_15, sh_16, sh_24, Int.reducePow, Int.cast_ofNat_Int, w_of, wl_of, ltT, ltF, leT, leF, eqT, eqF, okF_0, okF_s, gF_0, gF_s, consC_o, sF_0, sF_s, clsO_o, inA_i, ldA_i, stA_i, inJ_l, ldJ_l, stJ_l, inR_r, ldR_r, stR_r, tgR_r, lenA_i, lenA_l, lenA_r, lenA_ex, nl_i, nl_o, nl_l, nl_n, wd_n, wd_i, wd_l, wd_o, fit_i, fit_l, fit_o, K_v, K_n, true_and, and_true, Nat.reduceAdd, Nat.reduceLeDiff, Nat.reduceEqDiff, Nat.reduceMul, Nat.reduceLT, reduceIte, true_or, or_true, cmp_lt, cmp_gt, cmp_eq, wb_0, b_01, cmp_lt', cmp_gt', cmp_eq', b_0, b_1, wb_1, Int.reduceSub, Int.reduceToNat, List.getD_cons_succ, List.getD_cons_zero, Int.reduceLE, Int.reduceLT, Int.reduceEq, Int.reduceNeg, Int.reduceAdd, Int.reduceMul, and_self, em_b, ne_eq, not_false_eq_true, not_true_eq_false]
    try rfl
  | succ r ih =>
    intro m hm d Q
    have ub := r_upBy (h := h) hO hR hL hB hx (show m < 19 by omega)
    have hm19 := hu m (by omega)
    have g1 := mxU_ge (f := upV c sky (if bt then kN c else 0) (fnw i A) x) (n := m)
    have g2 : mxU (upV c sky (if bt then kN c else 0) (fnw i A) x) m ≤ 268435456 := by
      rcases mxU_ex (f := upV c sky (if bt then kN c else 0) (fnw i A) x) (n := m) with e | ⟨j, hj, e⟩
      · omega
      · have := hu j (by omega); omega
    have e3 : mxU (upV c sky (if bt then kN c else 0) (fnw i A) x) (m + 1) = if mxU (upV c sky (if bt then kN c else 0) (fnw i A) x) m < upV c sky (if bt then kN c else 0) (fnw i A) x m then upV c sky (if bt then kN c else 0) (fnw i A) x m else mxU (upV c sky (if bt then kN c else 0) (fnw i A) x) m := rfl
    rw [← ih (m + 1) (by omega) d Q, e3]
    generalize upV c sky (if bt then kN c else 0) (fnw i A) x = U at *
    by_cases q : mxU U m < U m
    · rw [if_pos q]
      rw [e_247_72]
      simp (disch := omega) only [e_247_74, e_247_76, e_247_79, e_247_80, e_247_83, e_247_85, e_247_86, e_247_88, e_247_91, e_247_92, e_247_94, e_247_96, e_247_97, e_247_100, e_247_102, e_247_105, e_247_106, e_247_108, e_247_110, e_247_111, e_247_114, e_247_117, e_247_119, e_247_121, e_247_124, hF, ub, mdO_c, mdO_g0, mdO_k0, mdO_g1, mdO_k1, mdO_g2, mdO_k2, mdO_g3, mdO_k3, mdO_g4, mdO_k4, mdO_g5, mdO_k5, mdO_g6, mdO_k6, mdO_g7, mdO_k7, mdO_g8, mdO_k8, mdO_g9, mdO_k9, mdO_g10, mdO_k10, mdO_g11, mdO_k11, mdO_g12, mdO_k12, mdO_g13, mdO_k13, mdO_g14, mdO_k14, mdO_g15, mdO_k15, mdO_g16, mdO_k16, mdO_g17, mdO_k17, mdO_g18, mdO_k18, mdO_g19, mdO_k19, mdO_g20, mdO_k20, mdO_g21, mdO_k21, mdO_g22, mdO_k22, mdO_g23, mdO_k23, mdO_g24, mdO_k24, mdO_g25, mdO_k25, mdO_g26, mdO_k26, mdO_g27, mdO_k27, mdO_g28, mdO_k28, mdO_g29, mdO_k29, mdO_g30, mdO_k30, mdO_g31, mdO_k31, mdO_g32, mdO_k32, mdO_g33, mdO_k33, mdO_g34, mdO_k34, mdO_g35, mdO_k35, mdO_s0, mdO_s5, mdO_s6, mdO_s7, mdO_s8, mdO_s9, mdO_s10, mdO_s11, mdO_s12, mdO_s13, mdO_s14, mdO_s15, mdO_s19, mdO_s20, mdO_s25, mdO_s26, mdO_s31, mdO_s32, md_1, md_2, md_g71, md_g72, md_g73, md_g74, md_g75, md_g76, md_g77, md_g78, md_g79, md_g80, md_g81, md_g82, md_g83, md_g84, md_g85, md_g86, md_g87, md_g88, md_g89, md_out, md_u71, md_u72, md_u73, md_u74, md_u75, md_u76, md_u77, md_u78, md_u79, md_u80, md_u81, md_u82, md_u83, md_u84, md_u85, md_u86, md_u87, md_u88, md_u89, md_uo, iup_s, iup_n, aup_s, aup_n, ne_eq, not_false_eq_true, sh_0, sh_1, sh_2, sh_3, sh_4, sh_5, sh_8, sh_15, sh_16, sh_24, Int.reducePow, Int.cast_ofNat_Int, w_of, wl_of, ltT, ltF, leT, leF, eqT, eqF, okF_0, okF_s, gF_0, gF_s, consC_o, sF_0, sF_s, clsO_o, inA_i, ldA_i, stA_i, inJ_l, ldJ_l, stJ_l, inR_r, ldR_r, stR_r, tgR_r, lenA_i, lenA_l, lenA_r, lenA_ex, nl_i, nl_o, nl_l, nl_n, wd_n, wd_i, wd_l, wd_o, fit_i, fit_l, fit_o, K_v, K_n, true_and, and_true, Nat.reduceAdd, Nat.reduceLeDiff, Nat.reduceEqDiff, Nat.reduceMul, Nat.reduceLT, reduceIte, true_or, or_true, cmp_lt, cmp_gt, cmp_eq, wb_0, b_01, cmp_lt', cmp_gt', cmp_eq', b_0, b_1, wb_1, Int.reduceSub, Int.reduceToNat, List.getD_cons_succ, List.getD_cons_zero, Int.reduceLE, Int.reduceLT, Int.reduceEq, Int.reduceNeg, Int.reduceAdd, Int.reduceMul, and_self, em_b, ne_eq, not_false_eq_true, not_true_eq_false]
      try rfl
    · rw [if_neg q]
      rw [e_247_72]
      simp (disch := omega) only [e_247_74, e_247_76, e_247_79, e_247_80, e_247_83, e_247_85, e_247_86, e_247_88, e_247_91, e_247_92, e_247_94, e_247_96, e_247_97, e_247_100, e_247_102, e_247_105, e_247_106, e_247_108, e_247_110, e_247_111, e_247_114, e_247_117, e_247_119, e_247_121, e_247_124, hF, ub, mdO_c, mdO_g0, mdO_k0, mdO_g1, mdO_k1, mdO_g2, mdO_k2, mdO_g3, mdO_k3, mdO_g4, mdO_k4, mdO_g5, mdO_k5, mdO_g6, mdO_k6, mdO_g7, mdO_k7, mdO_g8, mdO_k8, mdO_g9, mdO_k9, mdO_g10, mdO_k10, mdO_g11, mdO_k11, mdO_g12, mdO_k12, mdO_g13, mdO_k13, mdO_g14, mdO_k14, mdO_g15, mdO_k15, mdO_g16, mdO_k16, mdO_g17, mdO_k17, mdO_g18, mdO_k18, mdO_g19, mdO_k19, mdO_g20, mdO_k20, mdO_g21, mdO_k21, mdO_g22, mdO_k22, mdO_g23, mdO_k23, mdO_g24, mdO_k24, mdO_g25, mdO_k25, mdO_g26, mdO_k26, mdO_g27, mdO_k27, mdO_g28, mdO_k28, mdO_g29, mdO_k29, mdO_g30, mdO_k30, mdO_g31, mdO_k31, mdO_g32, mdO_k32, mdO_g33, mdO_k33, mdO_g34, mdO_k34, mdO_g35, mdO_k35, mdO_s0, mdO_s5, mdO_s6, mdO_s7, mdO_s8, mdO_s9, mdO_s10, mdO_s11, mdO_s12, mdO_s13, mdO_s14, mdO_s15, mdO_s19, mdO_s20, mdO_s25, mdO_s26, mdO_s31, mdO_s32, md_1, md_2, md_g71, md_g72, md_g73, md_g74, md_g75, md_g76, md_g77, md_g78, md_g79, md_g80, md_g81, md_g82, md_g83, md_g84, md_g85, md_g86, md_g87, md_g88, md_g89, md_out, md_u71, md_u72, md_u73, md_u74, md_u75, md_u76, md_u77, md_u78, md_u79, md_u80, md_u81, md_u82, md_u83, md_u84, md_u85, md_u86, md_u87, md_u88, md_u89, md_uo, iup_s, iup_n, aup_s, aup_n, ne_eq, not_false_eq_true, sh_0, sh_1, sh_2, sh_3, sh_4, sh_5, sh_8, sh_15, sh_16, sh_24, Int.reducePow, Int.cast_ofNat_Int, w_of, wl_of, ltT, ltF, leT, leF, eqT, eqF, okF_0, okF_s, gF_0, gF_s, consC_o, sF_0, sF_s, clsO_o, inA_i, ldA_i, stA_i, inJ_l, ldJ_l, stJ_l, inR_r, ldR_r, stR_r, tgR_r, lenA_i, lenA_l, lenA_r, lenA_ex, nl_i, nl_o, nl_l, nl_n, wd_n, wd_i, wd_l, wd_o, fit_i, fit_l, fit_o, K_v, K_n, true_and, and_true, Nat.reduceAdd, Nat.reduceLeDiff, Nat.reduceEqDiff, Nat.reduceMul, Nat.reduceLT, reduceIte, true_or, or_true, cmp_lt, cmp_gt, cmp_eq, wb_0, b_01, cmp_lt', cmp_gt', cmp_eq', b_0, b_1, wb_1, Int.reduceSub, Int.reduceToNat, List.getD_cons_succ, List.getD_cons_zero, Int.reduceLE, Int.reduceLT, Int.reduceEq, Int.reduceNeg, Int.reduceAdd, Int.reduceMul, and_self, em_b, ne_eq, not_false_eq_true, not_true_eq_false]
      try rfl

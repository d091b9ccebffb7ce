/-! ONE CALL ON BOTH SIDES. Written by gen_join.py -/
theorem strE_fr {h h' : PH} {a : Nat} {bs : List Int} (hf : ∀ k, k < 10 → hp h' k = hp h k) (ha : a + 4 < 10) (hs : strE h a bs) : strE h' a bs := by
  obtain ⟨h1, f, h2, h3⟩ := hs
  exact ⟨by rw [hf a (by omega)]; exact h1, f, by rw [hf (a + 4) ha]; exact h2, h3⟩
theorem txE_fr {h h' : PH} (hf : ∀ k, k < 10 → hp h' k = hp h k) (hX : txE h) : txE h' := ⟨strE_fr hf (by omega) hX.1, strE_fr hf (by omega) hX.2.1, strE_fr hf (by omega) hX.2.2.1, strE_fr hf (by omega) hX.2.2.2⟩
theorem tgF_15 {k : Nat} (h1 : 71 ≤ k) : tgF k = 15 := by
  unfold tgF
  simp only [show ¬ k < 10 by omega, show ¬ k = 10 by omega, show ¬ k < 13 by omega, show ¬ k < 20 by omega, show ¬ k < 27 by omega, show ¬ k < 34 by omega, show ¬ k < 38 by omega, show ¬ k < 41 by omega, show ¬ k < 43 by omega, show ¬ k < 45 by omega, show ¬ k < 48 by omega, show ¬ k = 48 by omega, show ¬ k = 49 by omega, show ¬ k < 59 by omega, show ¬ k < 61 by omega, show ¬ k < 64 by omega, show ¬ k = 64 by omega, show ¬ k = 65 by omega, show ¬ k = 66 by omega, show ¬ k = 67 by omega, show ¬ k < 71 by omega, if_false]
theorem tgF_0 {k : Nat} (h1 : k < 10) : tgF k = 0 := if_pos h1
theorem bk_15 {kc : Nat → KC} {ow : Nat → Nat} {h h' : PH} {M : MS} {S0 e k : Nat} (hB : bkI kc ow h M S0 e k) (hc : chg ow [15] h h') : bkI kc ow h' M S0 e k := by
  obtain ⟨hF, hS, ⟨ca0, sky0, hH⟩, he0, nd, nc, nk, nr, nb, hE, hR⟩ := hB
  have hx := ext_c hc
  exact ⟨chg_F hc hF, StP_e hF hx (by decide) hS, ⟨ca0, sky0, HoP_c hF hc (by decide) (by decide) hH⟩, he0, nd, nc, nk, nr, nb, EngP_e hF hx (by decide) hE, room_same hc.1 hc.2.1 hR⟩
def LIx (L : Nat) (f : Int → Int) (S0 k : Nat) (h : PH) : Prop := ∃ (kc : Nat → KC) (ow : Nat → Nat) (M : MS) (e : Nat) (i : Nat → Int) (A : Nat → Int → Int), bkI kc ow h M S0 e k ∧ refM M i A ∧ mdH h i A = h ∧ hp h 0 = aI 0 L f ∧ txE h
def jnt (L : Nat) (f : Int → Int) (S0 k : Nat) (h : PH) (mc : Nat) (lc : PL) (mr : Nat) (lr : PL) (mkv : Int → PV) : Prop := ∃ (v : Int) (h1 h2 : PH), LIx L f S0 (k + 1) h2 ∧ hp h 0 = aI 0 L f ∧ hp h1 0 = aI 0 L f ∧ clsO (hp h 10) = some 11 ∧ clsO (hp h1 71) = some 12 ∧ (∀ d Q, WP (d + 200) mc 0 lc [] h Q = Q (some (mkv v)) h1) ∧ (∀ d Q, WP (d + 200) mr 0 lr [] h1 Q = Q (some (mkv v)) h2)
theorem md_twice {h : PH} {i : Nat → Int} {A : Nat → Int → Int} : mdH (mdH h i A) i A = mdH h i A := md_self rfl rfl rfl rfl rfl rfl rfl rfl rfl rfl rfl rfl rfl rfl rfl rfl rfl rfl rfl
theorem jn {L : Nat} {f : Int → Int} {S0 k e D : Nat} {h : PH} {kc : Nat → KC} {ow : Nat → Nat} {M : MS} {i : Nat → Int} {A : Nat → Int → Int} {mc mr : Nat} {lc lr : PL} {mkv : Int → PV} {R : Int → MS → Prop} (hD : D ≤ 200) (hB : bkI kc ow h M S0 e k) (hm : mdH h i A = h) (h0 : hp h 0 = aI 0 L f) (hX : txE h) (hC : cResD D ow h S0 k mc lc mkv R) (hR : ∀ v M' h', txE h' → R v M' → ∃ j B, refM M' j B ∧ ∀ d Q, WP (d + 200) mr 0 lr [] (mdH h' i A) Q = Q (some (mkv v)) (mdH h' j B)) : jnt L f S0 k h mc lc mr lr mkv := by
  obtain ⟨kc', ow', h1, e', v, M', r, b', x', w'⟩ := hC
  have hF := hB.1
  have h90 := hF.1
  have lo : ∀ k, k < 10 → hp h1 k = hp h k := fun k hk => x'.2.2 k (by omega) (by rw [hF.2 k (by omega), tgF_0 hk]; decide)
  have hi : ∀ k, 71 ≤ k → k < 90 → hp h1 k = hp h k := fun k k1 k2 => x'.2.2 k (by omega) (by rw [hF.2 k (by omega), tgF_15 k1]; decide)
  have at' : ∀ k, 71 ≤ k → k < 90 → hp h1 k = hp (mdH h i A) k := fun k k1 k2 => by rw [hm]; exact hi k k1 k2
  have hm1 : mdH h1 i A = h1 := md_self (at' 71 (by omega) (by omega)) (at' 72 (by omega) (by omega)) (at' 73 (by omega) (by omega)) (at' 74 (by omega) (by omega)) (at' 75 (by omega) (by omega)) (at' 76 (by omega) (by omega)) (at' 77 (by omega) (by omega)) (at' 78 (by omega) (by omega)) (at' 79 (by omega) (by omega)) (at' 80 (by omega) (by omega)) (at' 81 (by omega) (by omega)) (at' 82 (by omega) (by omega)) (at' 83 (by omega) (by omega)) (at' 84 (by omega) (by omega)) (at' 85 (by omega) (by omega)) (at' 86 (by omega) (by omega)) (at' 87 (by omega) (by omega)) (at' 88 (by omega) (by omega)) (at' 89 (by omega) (by omega))
  have hX1 := txE_fr lo hX
  obtain ⟨j, B, rM, wR⟩ := hR v M' h1 hX1 r
  rw [hm1] at wR
  have hF1 := b'.1
  have hch : chg ow' [15] h1 (mdH h1 j B) := ⟨rfl, rfl, fun k hk => by
    by_cases q : k < 71 ∨ 89 < k
    · exact md_out q
    · exact absurd (show ow' k ∈ [15] by rw [hF1.2 k (by omega), tgF_15 (by omega)]; decide) hk⟩
  refine ⟨v, h1, mdH h1 j B, ⟨kc', ow', M', e', j, B, bk_15 b' hch, rM, md_twice, by rw [md_out (by omega), lo 0 (by omega)]; exact h0, txE_fr (fun k hk => md_out (by omega)) hX1⟩, h0, by rw [lo 0 (by omega)]; exact h0, ?_, ?_, fun d Q => ?_, wR⟩
  · obtain ⟨-, ⟨⟨i0, b1, -⟩, -⟩, -⟩ := hB
    rw [b1]; rfl
  · rw [at' 71 (by omega) (by omega)]; rfl
  · have z := w' (d + (200 - D)) Q
    rw [show d + (200 - D) + D = d + 200 by omega] at z
    exact z
theorem i64_jor {x y : Int} : i64 (jor x y) := by
  unfold jor i64
  constructor
  · exact Int64.le_toInt _
  · exact Int64.toInt_lt _
section jj
variable {L : Nat} {f : Int → Int} {S0 k : Nat} {h : PH}
theorem j_fault {x : Int} (hL : LIx L f S0 k h) (hk : k < 600) (x1 : -2147483648 ≤ x) (x2 : x < 2147483648) : jnt L f S0 k h 115 [some (vr 10), some (vi x)] 196 [some (vr 71), some (vi x)] vi := by
  obtain ⟨kc, ow, M, e, i, A, hB, hM, hm, h0, hX⟩ := hL
  refine jn (D := 30) (by omega) hB hm h0 hX (C_fault hB x1 x2) (fun v M' h' hX' r => ?_)
  obtain ⟨rfl, rfl⟩ := r
  obtain ⟨j, B, a1, a2⟩ := R_fault (h := h') hM x1 x2
  exact ⟨j, B, a1, fun d Q => a2 (d + 191) Q⟩
theorem j_place {x y : Int} (hL : LIx L f S0 k h) (hk : k < 600) (x1 : -2147483648 ≤ x) (x2 : x < 2147483648) (y1 : -2147483648 ≤ y) (y2 : y < 2147483648) : jnt L f S0 k h 116 [some (vr 10), some (vi x), some (vi y)] 217 [some (vr 71), some (vi x), some (vi y), none, none] vi := by
  obtain ⟨kc, ow, M, e, i, A, hB, hM, hm, h0, hX⟩ := hL
  refine jn (D := 30) (by omega) hB hm h0 hX (C_place hB x1 x2 y1 y2) (fun v M' h' hX' r => ?_)
  obtain ⟨rfl, rfl⟩ := r
  obtain ⟨j, B, a1, a2⟩ := R_place (h := h') hM x1 x2 y1 y2
  exact ⟨j, B, a1, fun d Q => a2 (d + 191) Q⟩
theorem j_kin {x y : Int} (hL : LIx L f S0 k h) (hk : k < 600) (x1 : -2147483648 ≤ x) (x2 : x < 2147483648) (y1 : -2147483648 ≤ y) (y2 : y < 2147483648) : jnt L f S0 k h 117 [some (vr 10), some (vi x), some (vi y)] 218 [some (vr 71), some (vi x), some (vi y)] vi := by
  obtain ⟨kc, ow, M, e, i, A, hB, hM, hm, h0, hX⟩ := hL
  refine jn (D := 30) (by omega) hB hm h0 hX (C_kin hB x1 x2 y1 y2) (fun v M' h' hX' r => ?_)
  obtain ⟨rfl, rfl⟩ := r
  obtain ⟨j, B, a1, a2⟩ := R_kin (h := h') hM x1 x2 y1 y2
  exact ⟨j, B, a1, fun d Q => a2 (d + 191) Q⟩
theorem j_count {x : Int} (hL : LIx L f S0 k h) (hk : k < 600) (x1 : -2147483648 ≤ x) (x2 : x < 2147483648) : jnt L f S0 k h 150 [some (vr 10), some (vi x)] 294 [some (vr 71), some (vi x)] vi := by
  obtain ⟨kc, ow, M, e, i, A, hB, hM, hm, h0, hX⟩ := hL
  refine jn (D := 30) (by omega) hB hm h0 hX (C_count hB x1 x2) (fun v M' h' hX' r => ?_)
  obtain ⟨rfl, rfl⟩ := r
  obtain ⟨j, B, a1, a2⟩ := R_count (h := h') hM x1 x2
  exact ⟨j, B, a1, fun d Q => a2 (d + 191) Q⟩
theorem j_why {x : Int} (hL : LIx L f S0 k h) (hk : k < 600) (x1 : -2147483648 ≤ x) (x2 : x < 2147483648) : jnt L f S0 k h 118 [some (vr 10), some (vi x)] 220 [some (vr 71), some (vi x)] vi := by
  obtain ⟨kc, ow, M, e, i, A, hB, hM, hm, h0, hX⟩ := hL
  refine jn (D := 30) (by omega) hB hm h0 hX (C_why hB hk x1 x2) (fun v M' h' hX' r => ?_)
  obtain ⟨rfl, rfl⟩ := r
  obtain ⟨j, B, a1, a2⟩ := R_why (h := h') hM x1 x2
  exact ⟨j, B, a1, fun d Q => a2 (d + 191) Q⟩
theorem j_by {x y : Int} (hL : LIx L f S0 k h) (hk : k < 600) (x1 : -2147483648 ≤ x) (x2 : x < 2147483648) (y1 : -2147483648 ≤ y) (y2 : y < 2147483648) : jnt L f S0 k h 119 [some (vr 10), some (vi x), some (vi y), none] 221 [some (vr 71), some (vi x), some (vi y)] vi := by
  obtain ⟨kc, ow, M, e, i, A, hB, hM, hm, h0, hX⟩ := hL
  refine jn (D := 30) (by omega) hB hm h0 hX (C_by hB hk x1 x2 y1 y2) (fun v M' h' hX' r => ?_)
  obtain ⟨rfl, rfl⟩ := r
  obtain ⟨j, B, a1, a2⟩ := R_by (h := h') hM x1 x2 y1 y2
  exact ⟨j, B, a1, fun d Q => a2 (d + 191) Q⟩
theorem j_judge {x y : Int} (hL : LIx L f S0 k h) (hk : k < 600) (x1 : -2147483648 ≤ x) (x2 : x < 2147483648) (y1 : -2147483648 ≤ y) (y2 : y < 2147483648) : jnt L f S0 k h 124 [some (vr 10), some (vi x), some (vi y), none, none] 235 [some (vr 71), some (vi x), some (vi y), none, none, none, none] vi := by
  obtain ⟨kc, ow, M, e, i, A, hB, hM, hm, h0, hX⟩ := hL
  refine jn (D := 30) (by omega) hB hm h0 hX (C_judge hB hk x1 x2 y1 y2) (fun v M' h' hX' r => ?_)
  obtain ⟨rfl, rfl⟩ := r
  obtain ⟨j, B, a1, a2⟩ := R_judge (h := h') hM x1 x2 y1 y2
  exact ⟨j, B, a1, fun d Q => a2 (d + 191) Q⟩
theorem j_up (hL : LIx L f S0 k h) (hk : k < 600)  : jnt L f S0 k h 127 [some (vr 10)] 249 [some (vr 71)] vi := by
  obtain ⟨kc, ow, M, e, i, A, hB, hM, hm, h0, hX⟩ := hL
  refine jn (D := 30) (by omega) hB hm h0 hX (C_up hB hk) (fun v M' h' hX' r => ?_)
  obtain ⟨r, rfl⟩ := r
  obtain ⟨u, j, B, a1, q, a2⟩ := R_up (h := h') (i := i) hM.1 
  have z := ansF_uniq r a1
  subst z
  exact ⟨j, B, refM_q hM q, fun d Q => a2 (d + 191) Q⟩
theorem j_keeping {x : Int} (hL : LIx L f S0 k h) (hk : k < 600) (x1 : -2147483648 ≤ x) (x2 : x < 2147483648) : jnt L f S0 k h 128 [some (vr 10), some (vi x)] 250 [some (vr 71), some (vi x), none, none, none] vi := by
  obtain ⟨kc, ow, M, e, i, A, hB, hM, hm, h0, hX⟩ := hL
  refine jn (D := 30) (by omega) hB hm h0 hX (C_keeping hB hk x1 x2) (fun v M' h' hX' r => ?_)
  obtain ⟨r, rfl⟩ := r
  obtain ⟨u, j, B, a1, q, a2⟩ := R_keeping (h := h') (i := i) hM.1 x1 x2
  have z := ansK_uniq r a1
  subst z
  exact ⟨j, B, refM_q hM q, fun d Q => a2 (d + 191) Q⟩
theorem j_lasts (hL : LIx L f S0 k h) (hk : k < 600)  : jnt L f S0 k h 141 [some (vr 10)] 278 [some (vr 71)] vi := by
  obtain ⟨kc, ow, M, e, i, A, hB, hM, hm, h0, hX⟩ := hL
  refine jn (D := 30) (by omega) hB hm h0 hX (C_lasts hB hk) (fun v M' h' hX' r => ?_)
  obtain ⟨r, rfl⟩ := r
  obtain ⟨u, j, B, a1, q, a2⟩ := R_lasts (h := h') (i := i) hM.1 
  have z := ansF_uniq r a1
  subst z
  exact ⟨j, B, refM_q hM q, fun d Q => a2 (d + 191) Q⟩
theorem j_best (hL : LIx L f S0 k h) (hk : k < 600)  : jnt L f S0 k h 142 [some (vr 10)] 279 [some (vr 71), none, none] vi := by
  obtain ⟨kc, ow, M, e, i, A, hB, hM, hm, h0, hX⟩ := hL
  refine jn (D := 30) (by omega) hB hm h0 hX (C_best hB hk) (fun v M' h' hX' r => ?_)
  obtain ⟨r, rfl⟩ := r
  obtain ⟨u, j, B, a1, q, a2⟩ := R_best (h := h') (i := i) hM.1 
  have z := ansB_uniq r a1
  subst z
  exact ⟨j, B, refM_q hM q, fun d Q => a2 (d + 191) Q⟩
theorem j_rows {x : Int} (hL : LIx L f S0 k h) (hk : k < 600) (x1 : -2147483648 ≤ x) (x2 : x < 2147483648) : jnt L f S0 k h 129 [some (vr 10), some (vi x)] 253 [some (vr 71), some (vi x), none, none, none] vl := by
  obtain ⟨kc, ow, M, e, i, A, hB, hM, hm, h0, hX⟩ := hL
  refine jn (D := 30) (by omega) hB hm h0 hX (C_rows hB hk x1 x2) (fun v M' h' hX' r => ?_)
  obtain ⟨r, rfl⟩ := r
  obtain ⟨u, j, B, a1, q, a2⟩ := R_rows (h := h') (i := i) hM.1 x1 x2
  have z := ansR_uniq r a1
  subst z
  exact ⟨j, B, refM_q hM q, fun d Q => a2 (d + 191) Q⟩
theorem j_needed {x : Int} (hL : LIx L f S0 k h) (hk : k < 600) (x1 : -2147483648 ≤ x) (x2 : x < 2147483648) : jnt L f S0 k h 130 [some (vr 10), some (vi x), none, none, none, none] 255 [some (vr 71), some (vi x), none, none] vi := by
  obtain ⟨kc, ow, M, e, i, A, hB, hM, hm, h0, hX⟩ := hL
  refine jn (D := 30) (by omega) hB hm h0 hX (C_needed hB hk x1 x2) (fun v M' h' hX' r => ?_)
  obtain ⟨r, rfl⟩ := r
  obtain ⟨u, j, B, a1, q, a2⟩ := R_needed (h := h') (i := i) hM.1 x1 x2
  have z := ansN_uniq r a1
  subst z
  exact ⟨j, B, refM_q hM q, fun d Q => a2 (d + 191) Q⟩
theorem j_stands (hL : LIx L f S0 k h) (hk : k < 600)  : jnt L f S0 k h 135 [some (vr 10)] 265 [some (vr 71)] vi := by
  obtain ⟨kc, ow, M, e, i, A, hB, hM, hm, h0, hX⟩ := hL
  refine jn (D := 30) (by omega) hB hm h0 hX (C_stands hB hk) (fun v M' h' hX' r => ?_)
  obtain ⟨r, rfl⟩ := r
  obtain ⟨u, j, B, a1, q, a2⟩ := R_stands (h := h') (i := i) hM.1 
  have z := ansT_uniq r a1
  subst z
  exact ⟨j, B, refM_q hM q, fun d Q => a2 (d + 191) Q⟩
theorem j_reach (hL : LIx L f S0 k h) (hk : k < 600)  : jnt L f S0 k h 133 [some (vr 10)] 263 [some (vr 71), none, none] vi := by
  obtain ⟨kc, ow, M, e, i, A, hB, hM, hm, h0, hX⟩ := hL
  refine jn (D := 30) (by omega) hB hm h0 hX (C_reach hB hk) (fun v M' h' hX' r => ?_)
  obtain ⟨rfl, rfl⟩ := r
  obtain ⟨j, B, q, a2⟩ := R_reach (h := h') (i := i) hM.1
  exact ⟨j, B, refM_q hM q, fun d Q => a2 (d + 191) Q⟩
theorem j_bearers (hL : LIx L f S0 k h) (hk : k < 600)  : jnt L f S0 k h 134 [some (vr 10)] 264 [some (vr 71), none, none] vi := by
  obtain ⟨kc, ow, M, e, i, A, hB, hM, hm, h0, hX⟩ := hL
  refine jn (D := 30) (by omega) hB hm h0 hX (C_bearers hB hk) (fun v M' h' hX' r => ?_)
  obtain ⟨rfl, rfl⟩ := r
  obtain ⟨j, B, q, a2⟩ := R_bearers (h := h') (i := i) hM.1
  exact ⟨j, B, refM_q hM q, fun d Q => a2 (d + 191) Q⟩
theorem j_soonest {x y : Int} (hL : LIx L f S0 k h) (hk : k < 600) (x1 : -2147483648 ≤ x) (x2 : x < 2147483648) (y1 : -2147483648 ≤ y) (y2 : y < 2147483648) : jnt L f S0 k h 131 [some (vr 10), some (vi x), some (vi y), none] 261 [some (vr 71), some (vi x), some (vi y)] vi := by
  obtain ⟨kc, ow, M, e, i, A, hB, hM, hm, h0, hX⟩ := hL
  refine jn (D := 30) (by omega) hB hm h0 hX (C_soonest hB hk x1 x2 y1 y2) (fun v M' h' hX' r => ?_)
  obtain ⟨r, rfl⟩ := r
  obtain ⟨u, j, B, a1, q, a2⟩ := R_soonest (h := h') (i := i) hM.1 x1 x2 y1 y2
  have z := ansS_uniq r a1
  subst z
  exact ⟨j, B, refM_q hM q, fun d Q => a2 (d + 191) Q⟩
theorem j_way {x y z : Int} (hL : LIx L f S0 k h) (hk : k < 600) (x1 : -2147483648 ≤ x) (x2 : x < 2147483648) (y1 : -2147483648 ≤ y) (y2 : y < 2147483648) (z1 : -2147483648 ≤ z) (z2 : z < 2147483648) : jnt L f S0 k h 132 [some (vr 10), some (vi x), some (vi y), some (vi z), none] 262 [some (vr 71), some (vi x), some (vi y), some (vi z)] vi := by
  obtain ⟨kc, ow, M, e, i, A, hB, hM, hm, h0, hX⟩ := hL
  refine jn (D := 30) (by omega) hB hm h0 hX (C_way hB hk x1 x2 y1 y2 z1 z2) (fun v M' h' hX' r => ?_)
  obtain ⟨r, rfl⟩ := r
  obtain ⟨u, j, B, a1, q, a2⟩ := R_way (h := h') (i := i) hM.1 x1 x2 y1 y2 z1 z2
  have z := ansW_uniq r a1
  subst z
  exact ⟨j, B, refM_q hM q, fun d Q => a2 (d + 191) Q⟩
theorem j_hour {x : Int} (hL : LIx L f S0 k h) (hk : k < 600) (x1 : -2147483648 ≤ x) (x2 : x < 2147483648) : jnt L f S0 k h 120 [some (vr 10), some (vi x), none] 226 [some (vr 71), some (vi x), none] vi := by
  obtain ⟨kc, ow, M, e, i, A, hB, hM, hm, h0, hX⟩ := hL
  refine jn (D := 30) (by omega) hB hm h0 hX (C_hour hB hk x1 x2) (fun v M' h' hX' r => ?_)
  have r1 := congrArg Prod.fst r
  have r2 := congrArg Prod.snd r
  dsimp only at r1 r2
  obtain ⟨j, B, a1, a2⟩ := R_hour (h := h') hM x1 x2
  rw [r1, r2]
  exact ⟨j, B, a1, fun d Q => a2 (d + 191) Q⟩
theorem j_meal {x : Int} (hL : LIx L f S0 k h) (hk : k < 600) (x1 : -2147483648 ≤ x) (x2 : x < 2147483648) : jnt L f S0 k h 121 [some (vr 10), some (vi x), none] 227 [some (vr 71), some (vi x)] vi := by
  obtain ⟨kc, ow, M, e, i, A, hB, hM, hm, h0, hX⟩ := hL
  refine jn (D := 30) (by omega) hB hm h0 hX (C_meal hB hk x1 x2) (fun v M' h' hX' r => ?_)
  have r1 := congrArg Prod.fst r
  have r2 := congrArg Prod.snd r
  dsimp only at r1 r2
  obtain ⟨j, B, a1, a2⟩ := R_meal (h := h') hM x1 x2
  rw [r1, r2]
  exact ⟨j, B, a1, fun d Q => a2 (d + 191) Q⟩
theorem j_weather {x : Int} (hL : LIx L f S0 k h) (hk : k < 600) (x1 : -2147483648 ≤ x) (x2 : x < 2147483648) : jnt L f S0 k h 122 [some (vr 10), some (vi x), none] 228 [some (vr 71), some (vi x)] vi := by
  obtain ⟨kc, ow, M, e, i, A, hB, hM, hm, h0, hX⟩ := hL
  refine jn (D := 30) (by omega) hB hm h0 hX (C_weather hB hk x1 x2) (fun v M' h' hX' r => ?_)
  have r1 := congrArg Prod.fst r
  have r2 := congrArg Prod.snd r
  dsimp only at r1 r2
  obtain ⟨j, B, a1, a2⟩ := R_weather (h := h') hM x1 x2
  rw [r1, r2]
  exact ⟨j, B, a1, fun d Q => a2 (d + 191) Q⟩
theorem j_undo {x : Int} (hL : LIx L f S0 k h) (hk : k < 600) (x1 : -2147483648 ≤ x) (x2 : x < 2147483648) : jnt L f S0 k h 123 [some (vr 10), some (vi x), none] 229 [some (vr 71), some (vi x), none] vi := by
  obtain ⟨kc, ow, M, e, i, A, hB, hM, hm, h0, hX⟩ := hL
  refine jn (D := 30) (by omega) hB hm h0 hX (C_undo hB x1 x2) (fun v M' h' hX' r => ?_)
  have r1 := congrArg Prod.fst r
  have r2 := congrArg Prod.snd r
  dsimp only at r1 r2
  obtain ⟨j, B, a1, a2⟩ := R_undo (h := h') hM x1 x2
  rw [r1, r2]
  exact ⟨j, B, a1, fun d Q => a2 (d + 191) Q⟩
theorem j_perform {x : Int} (hL : LIx L f S0 k h) (hk : k < 600) (x1 : -2147483648 ≤ x) (x2 : x < 2147483648) : jnt L f S0 k h 125 [some (vr 10), some (vi x), none] 236 [some (vr 71), some (vi x), none, none] vi := by
  obtain ⟨kc, ow, M, e, i, A, hB, hM, hm, h0, hX⟩ := hL
  refine jn (D := 30) (by omega) hB hm h0 hX (C_perform hB hk x1 x2) (fun v M' h' hX' r => ?_)
  have r1 := congrArg Prod.fst r
  have r2 := congrArg Prod.snd r
  dsimp only at r1 r2
  obtain ⟨j, B, a1, a2⟩ := R_perform (h := h') hM x1 x2
  rw [r1, r2]
  exact ⟨j, B, a1, fun d Q => a2 (d + 191) Q⟩
theorem j_century {x y : Int} (hL : LIx L f S0 k h) (hk : k < 600) (y1 : -2147483648 ≤ y) (y2 : y < 2147483648) : jnt L f S0 k h 126 [some (vr 10), some (vi x), some (vi y), none, none] 239 [some (vr 71), some (vi x), some (vi y), none, none, none] vi := by
  obtain ⟨kc, ow, M, e, i, A, hB, hM, hm, h0, hX⟩ := hL
  refine jn (D := 30) (by omega) hB hm h0 hX (C_century (x := x) hB hk y1 y2) (fun v M' h' hX' r => ?_)
  have r1 := congrArg Prod.fst r
  have r2 := congrArg Prod.snd r
  dsimp only at r1 r2
  obtain ⟨j, B, a1, a2⟩ := R_century (h := h') (seed := x) hM y1 y2
  rw [r1, r2]
  exact ⟨j, B, a1, fun d Q => a2 (d + 191) Q⟩
theorem j_seen {x : Int} (hL : LIx L f S0 k h) (hk : k < 600) (x1 : -2147483648 ≤ x) (x2 : x < 2147483648) : jnt L f S0 k h 136 [some (vr 10), some (vi x), none] 269 [some (vr 71), some (vi x), none] vl := by
  obtain ⟨kc, ow, M, e, i, A, hB, hM, hm, h0, hX⟩ := hL
  refine jn (D := 30) (by omega) hB hm h0 hX (C_seen hB hk x1 x2) (fun v M' h' hX' r => ?_)
  obtain ⟨r, rfl⟩ := r
  obtain ⟨u, j, B, a1, q, a2⟩ := R_seen (h := h') (i := i) hM.1 hM.2.2.2.2.1 x1 x2
  have z := ansE_uniq r a1
  subst z
  exact ⟨j, B, refM_q hM q, fun d Q => a2 (d + 191) Q⟩
theorem j_seenBy {x y : Int} (hL : LIx L f S0 k h) (hk : k < 600) (x1 : -2147483648 ≤ x) (x2 : x < 2147483648) (y1 : -2147483648 ≤ y) (y2 : y < 2147483648) : jnt L f S0 k h 137 [some (vr 10), some (vi x), some (vi y), none] 270 [some (vr 71), some (vi x), some (vi y), none, none, none, none] vi := by
  obtain ⟨kc, ow, M, e, i, A, hB, hM, hm, h0, hX⟩ := hL
  refine jn (D := 30) (by omega) hB hm h0 hX (C_seenBy hB hk x1 x2 y1 y2) (fun v M' h' hX' r => ?_)
  obtain ⟨r, rfl⟩ := r
  obtain ⟨u, j, B, a1, q, a2⟩ := R_seenBy (h := h') (i := i) hM.1 hM.2.2.2.2.1 x1 x2 y1 y2
  have z := ansY_uniq r a1
  subst z
  exact ⟨j, B, refM_q hM q, fun d Q => a2 (d + 191) Q⟩
theorem j_suspects {x y : Int} (hL : LIx L f S0 k h) (hk : k < 600) (x1 : -2147483648 ≤ x) (x2 : x < 2147483648) (y1 : -2147483648 ≤ y) (y2 : y < 2147483648) : jnt L f S0 k h 138 [some (vr 10), some (vi x), some (vi y), none] 271 [some (vr 71), some (vi x), some (vi y), none, none, none, none, none, none] vi := by
  obtain ⟨kc, ow, M, e, i, A, hB, hM, hm, h0, hX⟩ := hL
  refine jn (D := 30) (by omega) hB hm h0 hX (C_suspects hB hk x1 x2 y1 y2) (fun v M' h' hX' r => ?_)
  obtain ⟨r, rfl⟩ := r
  obtain ⟨u, j, B, a1, q, a2⟩ := R_suspects (h := h') (i := i) hM.1 hM.2.2.2.2.1 x1 x2 y1 y2
  have z := ansX_uniq r a1
  subst z
  exact ⟨j, B, refM_q hM q, fun d Q => a2 (d + 191) Q⟩
theorem j_weathers {x : Int} (hL : LIx L f S0 k h) (hk : k < 600) (x1 : -2147483648 ≤ x) (x2 : x < 2147483648) : jnt L f S0 k h 139 [some (vr 10), some (vi x), none] 274 [some (vr 71), some (vi x), none] vi := by
  obtain ⟨kc, ow, M, e, i, A, hB, hM, hm, h0, hX⟩ := hL
  refine jn (D := 30) (by omega) hB hm h0 hX (C_weathers hB hk x1 x2) (fun v M' h' hX' r => ?_)
  obtain ⟨r, rfl⟩ := r
  obtain ⟨u, j, B, a1, q, a2⟩ := R_weathers (h := h') (i := i) hM.1 hM.2.2.2.2.1 x1 x2
  have z := ansH_uniq r a1
  subst z
  exact ⟨j, B, refM_q hM q, fun d Q => a2 (d + 191) Q⟩
theorem j_attempt {x : Int} (hL : LIx L f S0 k h) (hk : k < 600) (x1 : -2147483648 ≤ x) (x2 : x < 2147483648) : jnt L f S0 k h 140 [some (vr 10), some (vi x), none, none] 277 [some (vr 71), some (vi x), none, none, none, none, none, none] vi := by
  obtain ⟨kc, ow, M, e, i, A, hB, hM, hm, h0, hX⟩ := hL
  refine jn (D := 30) (by omega) hB hm h0 hX (C_attempt hB hk x1 x2) (fun v M' h' hX' r => ?_)
  obtain ⟨r, rfl⟩ := r
  obtain ⟨u, j, B, a1, q, a2⟩ := R_attempt (h := h') (i := i) hM.1 hM.2.2.2.2.1 x1 x2
  have z := ansA_uniq r a1
  subst z
  exact ⟨j, B, refM_q hM q, fun d Q => a2 (d + 191) Q⟩
theorem j_chance {x y : Int} (hL : LIx L f S0 k h) (hk : k < 600) (x1 : -2147483648 ≤ x) (x2 : x < 2147483648) (y1 : -2147483648 ≤ y) (y2 : y < 2147483648) : jnt L f S0 k h 143 [some (vr 10), some (vi x), some (vi y), none] 286 [some (vr 71), some (vi x), some (vi y), none] vi := by
  obtain ⟨kc, ow, M, e, i, A, hB, hM, hm, h0, hX⟩ := hL
  refine jn (D := 30) (by omega) hB hm h0 hX (C_chance hB hk x1 x2 y1 y2) (fun v M' h' hX' r => ?_)
  obtain ⟨r, rfl⟩ := r
  obtain ⟨u, j, B, a1, q, a2⟩ := R_chance (h := h') (i := i) hM.1 hM.2.2.2.2.1 x1 x2 y1 y2
  have z := ansC_uniq r a1
  subst z
  exact ⟨j, B, refM_q hM q, fun d Q => a2 (d + 149) Q⟩
theorem j_mean {x y : Int} (hL : LIx L f S0 k h) (hk : k < 600) (x1 : -2147483648 ≤ x) (x2 : x < 2147483648) (y1 : -2147483648 ≤ y) (y2 : y < 2147483648) : jnt L f S0 k h 144 [some (vr 10), some (vi x), some (vi y), none] 287 [some (vr 71), some (vi x), some (vi y), none] vi := by
  obtain ⟨kc, ow, M, e, i, A, hB, hM, hm, h0, hX⟩ := hL
  refine jn (D := 30) (by omega) hB hm h0 hX (C_mean hB hk x1 x2 y1 y2) (fun v M' h' hX' r => ?_)
  obtain ⟨r, rfl⟩ := r
  obtain ⟨u, j, B, a1, q, a2⟩ := R_mean (h := h') (i := i) hM.1 hM.2.2.2.2.1 x1 x2 y1 y2
  have z := ansC_uniq r a1
  subst z
  exact ⟨j, B, refM_q hM q, fun d Q => a2 (d + 149) Q⟩
theorem j_numbers {x y z : Int} (hL : LIx L f S0 k h) (hk : k < 600) (x1 : -2147483648 ≤ x) (x2 : x < 2147483648) (y1 : -2147483648 ≤ y) (y2 : y < 2147483648) (z1 : -2147483648 ≤ z) (z2 : z < 2147483648) : jnt L f S0 k h 145 [some (vr 10), some (vi x), some (vi y), some (vi z), none] 289 [some (vr 71), some (vi x), some (vi y), some (vi z), none] vi := by
  obtain ⟨kc, ow, M, e, i, A, hB, hM, hm, h0, hX⟩ := hL
  refine jn (D := 30) (by omega) hB hm h0 hX (C_numbers hB x1 x2 y1 y2 z1 z2) (fun v M' h' hX' r => ?_)
  have r1 := congrArg Prod.fst r
  have r2 := congrArg Prod.snd r
  dsimp only at r1 r2
  obtain ⟨j, B, a1, a2⟩ := R_numbers (h := h') hM x1 x2 y1 y2 z1 z2
  rw [r1, r2]
  exact ⟨j, B, a1, fun d Q => a2 (d + 191) Q⟩
theorem j_write {x y l : Int} (hL : LIx L f S0 k h) (hk : k < 600) (x1 : -2147483648 ≤ x) (x2 : x < 2147483648) (y1 : -2147483648 ≤ y) (y2 : y < 2147483648) (hl : i64 l) : jnt L f S0 k h 146 [some (vr 10), some (vi x), some (vi y), some (vl l), none] 290 [some (vr 71), some (vi x), some (vi y), some (vl l), none, none] vl := by
  obtain ⟨kc, ow, M, e, i, A, hB, hM, hm, h0, hX⟩ := hL
  refine jn (D := 30) (by omega) hB hm h0 hX (C_write hB x1 x2 y1 y2 hl) (fun v M' h' hX' r => ?_)
  have r1 := congrArg Prod.fst r
  have r2 := congrArg Prod.snd r
  dsimp only at r1 r2
  obtain ⟨j, B, a1, a2⟩ := R_write (h := h') hM x1 x2 y1 y2 hl
  rw [r1, r2]
  exact ⟨j, B, a1, fun d Q => a2 (d + 191) Q⟩
theorem j_lists {x y z : Int} (hL : LIx L f S0 k h) (hk : k < 600) (x1 : -2147483648 ≤ x) (x2 : x < 2147483648) (y1 : -2147483648 ≤ y) (y2 : y < 2147483648) (z1 : -2147483648 ≤ z) (z2 : z < 2147483648) : jnt L f S0 k h 147 [some (vr 10), some (vi x), some (vi y), some (vi z), none, none, none] 291 [some (vr 71), some (vi x), some (vi y), some (vi z), none, none, none, none] vi := by
  obtain ⟨kc, ow, M, e, i, A, hB, hM, hm, h0, hX⟩ := hL
  refine jn (D := 30) (by omega) hB hm h0 hX (C_lists hB hk x1 x2 y1 y2 z1 z2) (fun v M' h' hX' r => ?_)
  obtain ⟨o, o1, o2⟩ := r
  obtain ⟨o', j, B, p1, a1, a2⟩ := R_lists (h := h') hM x1 x2 y1 y2 z1 z2
  have eo : listsF o M x y z = listsF o' M x y z := by
    unfold listsF
    by_cases q : (0 ≤ x ∧ x ≤ 3) ∧ aimB (mC M) y z = true
    · rw [if_pos q, if_pos q]
      cases em : mT M x.toNat with
      | none => rfl
      | some w =>
        obtain ⟨so, l⟩ := w
        have ex : ∃ so l, 0 ≤ x ∧ x ≤ 3 ∧ mT M x.toNat = some (so, l) := ⟨so, l, q.1.1, q.1.2, em⟩
        have c1 := p1 q.2 ex
        have c2 := (o1 q.2).resolve_right (fun n => n ex)
        rw [comeA_uniq c2 c1]
    · rw [if_neg q, if_neg q]
  rw [eo] at o2
  have r1 := congrArg Prod.fst o2
  have r2 := congrArg Prod.snd o2
  dsimp only at r1 r2
  rw [r1, r2]
  exact ⟨j, B, a1, fun d Q => a2 (d + 191) Q⟩
theorem j_image {x : Int} (hL : LIx L f S0 k h) (hk : k < 600) (x1 : -2147483648 ≤ x) (x2 : x < 2147483648) : jnt L f S0 k h 148 [some (vr 10), some (vi x), none] 292 [some (vr 71), some (vi x), none] vi := by
  obtain ⟨kc, ow, M, e, i, A, hB, hM, hm, h0, hX⟩ := hL
  refine jn (D := 30) (by omega) hB hm h0 hX (C_image hB x1 x2) (fun v M' h' hX' r => ?_)
  have r1 := congrArg Prod.fst r
  have r2 := congrArg Prod.snd r
  dsimp only at r1 r2
  obtain ⟨j, B, a1, a2⟩ := R_image (h := h') hM x1 x2
  rw [r1, r2]
  exact ⟨j, B, a1, fun d Q => a2 (d + 191) Q⟩
theorem j_restore {x : Int} (hL : LIx L f S0 k h) (hk : k < 600) (x1 : -2147483648 ≤ x) (x2 : x < 2147483648) : jnt L f S0 k h 149 [some (vr 10), some (vi x), none] 293 [some (vr 71), some (vi x), none] vi := by
  obtain ⟨kc, ow, M, e, i, A, hB, hM, hm, h0, hX⟩ := hL
  refine jn (D := 30) (by omega) hB hm h0 hX (C_restore hB x1 x2) (fun v M' h' hX' r => ?_)
  have r1 := congrArg Prod.fst r
  have r2 := congrArg Prod.snd r
  dsimp only at r1 r2
  obtain ⟨j, B, a1, a2⟩ := R_restore (h := h') hM x1 x2
  rw [r1, r2]
  exact ⟨j, B, a1, fun d Q => a2 (d + 191) Q⟩
theorem j_feed {x y z u v : Int} (hL : LIx L f S0 k h) (hk : k < 600) (x1 : -2147483648 ≤ x) (x2 : x < 2147483648) (y1 : -2147483648 ≤ y) (y2 : y < 2147483648) (z1 : -2147483648 ≤ z) (z2 : z < 2147483648) (u1 : -2147483648 ≤ u) (u2 : u < 2147483648) (v1 : -2147483648 ≤ v) (v2 : v < 2147483648) : jnt L f S0 k h 113 [some (vr 10), some (vi x), some (vi y), some (vi z), some (vi u), some (vi v)] 167 [some (vr 71), some (vi x), some (vi y), some (vi z), some (vi u), some (vi v), none, none] vi := by
  obtain ⟨kc, ow, M, e, i, A, hB, hM, hm, h0, hX⟩ := hL
  refine jn (D := 30) (by omega) hB hm h0 hX (C_feed hB ⟨x1, x2⟩ ⟨y1, y2⟩ ⟨z1, z2⟩ ⟨u1, u2⟩ ⟨v1, v2⟩) (fun v M' h' hX' r => ?_)
  have r1 := congrArg Prod.fst r
  have r2 := congrArg Prod.snd r
  dsimp only at r1 r2
  obtain ⟨j, B, a1, a2⟩ := R_feed (h := h') hM ⟨x1, x2⟩ ⟨y1, y2⟩ ⟨z1, z2⟩ ⟨u1, u2⟩ ⟨v1, v2⟩
  rw [r1, r2]
  exact ⟨j, B, a1, fun d Q => a2 (d + 191) Q⟩
theorem j_county {x : Int} (hL : LIx L f S0 k h) (hk : k < 600) (x1 : -2147483648 ≤ x) (x2 : x < 2147483648) : jnt L f S0 k h 114 [some (vr 10), some (vi x)] 195 [some (vr 71), some (vi x), none] vi := by
  obtain ⟨kc, ow, M, e, i, A, hB, hM, hm, h0, hX⟩ := hL
  refine jn (D := 100) (by omega) hB hm h0 hX (C_county hB hX x1 x2) (fun v M' h' hX' r => ?_)
  have r1 := congrArg Prod.fst r
  have r2 := congrArg Prod.snd r
  dsimp only at r1 r2
  obtain ⟨j, B, a1, a2⟩ := R_county (h := h') hM hX' x1 x2
  rw [r1, r2]
  exact ⟨j, B, a1, fun d Q => a2 (d + 100) Q⟩
end jj

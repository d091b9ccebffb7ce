/-! THE CLASS: image, restore, feed -/
section parts
variable {kc : Nat → KC} {ow : Nat → Nat} {M : MS} {S0 e k : Nat}
def setI (M : MS) (I : Nat → Option (KC × ZT)) : MS := (mC M, mZ M, mP M, I, M.2.2.2.2)
theorem bk_i {ow' : Nat → Nat} {h h' : PH} {I : Nat → Option (KC × ZT)} (hB : bkI kc ow h M S0 e k) (hx : extO ow h ow' h' [10]) (h1 : h'.1 ≤ h.1 + 1) (h2 : h'.2.1 ≤ h.2.1 + 4) (hI : ImP kc ow' h' I) : bkI kc ow' h' (setI M I) S0 e (k + 1) ∧ extO ow h ow' h' allT := by
  obtain ⟨hF, ⟨s1, ⟨ca, k1, s2⟩, ⟨i65, p65, s3⟩, s4, s5, s6, s7, s8⟩, ⟨ca0, sky0, hH⟩, he0, nd, nc, nk, nr, nb, hE, hR⟩ := hB
  have h90 := hF.1
  obtain ⟨t64, t65, -⟩ := tg_64 hF
  exact ⟨⟨ext_F hx hF, ⟨BkO_e hF hx (by decide) s1, ⟨ca, k1, MoP_e hx (by omega) (by decide) (by rw [t64]; decide) s2⟩, ⟨i65, p65, by rw [hx.2.2 65 (by omega) (by rw [t65]; decide)]; exact s3⟩, hI, PaP_e hF hx (by decide) s5, TrP_e hF hx (by decide) s6, TkP_e hF hx (by decide) s7, RdP_e hF hx (by decide) s8⟩, ⟨ca0, sky0, HoP_e hF hx (by decide) (by decide) hH⟩, by omega, nd, nc, nk, nr, nb, EngP_e hF hx (by decide) hE, by unfold roomI at *; omega⟩, ext_w hx (by decide)⟩
theorem img_at {h : PH} {I : Nat → Option (KC × ZT)} {f : Int → Option Nat} {x : Nat} (hx : x < 2) (i2 : ImO kc ow h (f 0) (I 0)) (i3 : ImO kc ow h (f 1) (I 1)) : ImO kc ow h (f x) (I x) := by
  rcases (by omega : x = 0 ∨ x = 1) with z | z <;> subst z
  · exact i2
  · exact i3
theorem Mo_init {h : PH} {a ca : Nat} {c : KC} {i : Nat → Int} {p : PV} (hC : CtyAt h ca c) (ha : 10 ≤ a) (h1 : hp h a = moO i p) (hne : ca ≠ a) : ∃ k : Nat → Int, k 1 = (encC c (kFst c) : Int) ∧ k 2 = (kSky c : Int) ∧ k 3 = i 3 ∧ ∀ d Q, WP d 56 0 [some (vr a), some (vr ca)] [] h Q = Q none (hup h a (moO k (vr ca))) := by
  obtain ⟨tf, tt, mf, mt, n, fh, fw, fa, fc, fg, fp, hA, -⟩ := hC
  refine ⟨iup (iup i 1 (encC c (kFst c))) 2 (kSky c), by rw [iup_n (by omega), iup_s], iup_s, by rw [iup_n (by omega), iup_n (by omega)], fun d Q => ?_⟩
  simp (disch := omega) only [e_56_0, e_56_1, e_56_4, e_56_5, e_56_6, e_56_9, e_56_10, e_56_11, e_56_14, e_56_17, e_56_18, e_56_19, e_56_22, e_56_25, h1, hA, ha, hne, hup_tt, true_and, moO_c, moO_g0, moO_k0, moO_g1, moO_k1, moO_g2, moO_k2, moO_g3, moO_k3, moO_s0, moO_s1, moO_s2, moO_s3, hoO_c, hoO_g0, hoO_k0, hoO_g1, hoO_k1, hoO_g2, hoO_k2, hoO_g3, hoO_k3, hoO_g4, hoO_k4, hoO_g5, hoO_k5, hoO_g6, hoO_k6, hoO_g7, hoO_k7, hoO_g8, hoO_k8, hoO_g9, hoO_k9, hoO_s0, hoO_s1, hoO_s2, hoO_s9, iup_s, iup_n, hp_up1, hp_upn, ne_eq, not_false_eq_true, sh_0, sh_1, sh_2, sh_3, sh_4, sh_5, sh_8, sh_15, sh_16, sh_24, Int.reducePow, Int.cast_ofNat_Int, w_of, wl_of, ltT, ltF, leT, leF, eqT, eqF, okF_0, okF_s, gF_0, gF_s, consC_o, sF_0, sF_s, clsO_o, inA_i, ldA_i, stA_i, inJ_l, ldJ_l, stJ_l, inR_r, ldR_r, stR_r, tgR_r, lenA_i, lenA_l, lenA_r, lenA_ex, nl_i, nl_o, nl_l, nl_n, wd_n, wd_i, wd_l, wd_o, fit_i, fit_l, fit_o, K_v, K_n, true_and, and_true, Nat.reduceAdd, Nat.reduceLeDiff, Nat.reduceEqDiff, Nat.reduceMul, Nat.reduceLT, reduceIte, true_or, or_true, cmp_lt, cmp_gt, cmp_eq, wb_0, b_01, cmp_lt', cmp_gt', cmp_eq', b_0, b_1, wb_1, Int.reduceSub, Int.reduceToNat, List.getD_cons_succ, List.getD_cons_zero, Int.reduceLE, Int.reduceLT, Int.reduceEq, Int.reduceNeg, Int.reduceAdd, Int.reduceMul, and_self, em_b, ne_eq, not_false_eq_true, not_true_eq_false]
  try rfl
theorem C_image {h : PH} {x : Int} (hB : bkI kc ow h M S0 e k) (h1 : -2147483648 ≤ x) (h2 : x < 2147483648) : cRes ow h S0 k 148 [some (vr 10), some (vi x), none] vi (fun v M' => (v, M') = imageF M x) := by
  have hB' := hB
  obtain ⟨hF, ⟨⟨i, b1, b2, b3, b4⟩, ⟨ca, kc1, hM⟩, -, ⟨f, i1, i2, i3, i4⟩, -⟩, -⟩ := hB
  have h90 := hF.1
  have hM' := hM
  obtain ⟨j, m1, m2, m3, m4, m5, m6⟩ := hM
  obtain ⟨t64, -, t66, -, -, -, -, t10, -⟩ := tg_64 hF
  have hca := m6.2.2.2
  unfold imageF
  by_cases q : 0 ≤ x ∧ x ≤ 1
  · rw [if_pos q]
    obtain ⟨q1, q2⟩ := q
    obtain ⟨xn, rfl⟩ : ∃ n : Nat, x = n := ⟨x.toNat, by omega⟩
    rw [Int.toNat_natCast]
    have hxn : xn < 2 := by omega
    have hI := img_at (x := xn) hxn i2 i3
    cases hf : f xn with
    | some a =>
      rw [hf] at hI
      have hA : ow a = 10 ∧ 90 ≤ a ∧ a < h.1 ∧ ∃ ia pa, hp h a = moO ia pa := by
        cases hm : mI M xn with
        | none => rw [hm] at hI; cases (show (some a : Option Nat) = none from hI)
        | some y =>
          obtain ⟨c', z'⟩ := y
          rw [hm] at hI
          obtain ⟨a', ca', w1, w2, w3, w4, w5, ⟨ia, w6, -⟩⟩ := hI
          cases w1
          exact ⟨w2, w3, w4, ia, _, w6⟩
      obtain ⟨ta, a90, al, ia, pa, ha⟩ := hA
      obtain ⟨ka, n1, n2, n3, n4⟩ := Mo_take (by omega) ha m1 ⟨ca, rfl⟩
      have hch : chg ow [10] h (hup h a (moO ka (vr ca))) := chg_up ta (by decide)
      have hMa : MoP ow (hup h a (moO ka (vr ca))) a ca (mC M) (mZ M) := ⟨ka, hp_up1, by rw [n1]; exact m2, by rw [n2]; exact m3, by rw [n3]; exact m4, m5, KCty_c hch (by decide) m6⟩
      have old : ∀ (y : Nat), y < 2 → y ≠ xn → ImO kc ow (hup h a (moO ka (vr ca))) (f y) (mI M y) := fun y hy hne => by
        have hIy := img_at (x := y) hy i2 i3
        cases hm : mI M y with
        | none => rw [hm] at hIy; exact hIy
        | some w =>
          obtain ⟨c', z'⟩ := w
          rw [hm] at hIy
          obtain ⟨a', ca', w1, w2, w3, w4, w5, ⟨i6, w6, w7, w8, w9, w10, w11⟩⟩ := hIy
          have hne2 : a' ≠ a := fun e => by
            subst e
            rcases (by omega : (xn = 0 ∧ y = 1) ∨ (xn = 1 ∧ y = 0)) with ⟨e1, e2⟩ | ⟨e1, e2⟩ <;> subst e1 <;> subst e2
            · exact i4 _ hf w1
            · exact i4 _ w1 hf
          exact ⟨a', ca', w1, w2, w3, w4, w5, ⟨i6, by rw [hp_upn hne2]; exact w6, w7, w8, w9, w10, KCty_c hch (by decide) w11⟩⟩
      have mk : ∀ (y : Nat), y < 2 → ImO kc ow (hup h a (moO ka (vr ca))) (f y) (upI (mI M) xn (some (mC M, mZ M)) y) := fun y hy => by
        by_cases e1 : y = xn
        · subst e1
          rw [show upI (mI M) y (some (mC M, mZ M)) y = some (mC M, mZ M) from if_pos rfl]
          exact ⟨a, ca, hf, ta, a90, al, kc1, hMa⟩
        · rw [show upI (mI M) xn (some (mC M, mZ M)) y = mI M y from if_neg e1]
          exact old y hy e1
      obtain ⟨r1, r2⟩ := bk_i (I := upI (mI M) xn (some (mC M, mZ M))) hB' (ext_c hch) (by show h.1 ≤ h.1 + 1; omega) (by show h.2.1 ≤ h.2.1 + 4; omega) ⟨f, by rw [hp_upn (by omega)]; exact i1, mk 0 (by omega), mk 1 (by omega), i4⟩
      refine ⟨kc, ow, _, e, 0, _, rfl, r1, r2, fun d Q => ?_⟩
      have a9 : a ≠ 9 := by omega
      have sn : (some a : Option Nat) ≠ some 9 := fun z => a9 (Option.some.inj z)
      have sn2 : ¬ ((some a : Option Nat) = none) := fun z => by cases z
      have a9f := eq_false a9
      simp (disch := omega) only [e_148_0, e_148_1, e_148_4, e_148_5, e_148_6, e_148_9, e_148_11, e_148_12, e_148_13, e_148_16, e_148_17, e_148_18, e_148_19, e_148_20, e_148_45, e_148_46, e_148_47, e_148_50, e_148_53, e_148_54, b1, i1, m1, ha, hf, n4, sn, sn2, a9f, if_false, true_and, bkO_c, bkO_g0, bkO_k0, bkO_g1, bkO_k1, bkO_g2, bkO_k2, bkO_g3, bkO_k3, bkO_g4, bkO_k4, bkO_g5, bkO_k5, bkO_g6, bkO_k6, bkO_g7, bkO_k7, bkO_g8, bkO_k8, bkO_g9, bkO_k9, bkO_g10, bkO_k10, bkO_g11, bkO_k11, bkO_g12, bkO_k12, bkO_g13, bkO_k13, bkO_g14, bkO_k14, bkO_g15, bkO_k15, bkO_g16, bkO_k16, bkO_g17, bkO_k17, bkO_s12, bkO_s16, bkO_s17, moO_c, moO_g0, moO_k0, moO_g1, moO_k1, moO_g2, moO_k2, moO_g3, moO_k3, moO_s0, moO_s1, moO_s2, moO_s3, hoO_c, hoO_g0, hoO_k0, hoO_g1, hoO_k1, hoO_g2, hoO_k2, hoO_g3, hoO_k3, hoO_g4, hoO_k4, hoO_g5, hoO_k5, hoO_g6, hoO_k6, hoO_g7, hoO_k7, hoO_g8, hoO_k8, hoO_g9, hoO_k9, hoO_s0, hoO_s1, hoO_s2, hoO_s9, iup_s, iup_n, hp_up1, hp_upn, ne_eq, not_false_eq_true, sh_0, sh_1, sh_2, sh_3, sh_4, sh_5, sh_8, sh_15, sh_16, sh_24, Int.reducePow, Int.cast_ofNat_Int, w_of, wl_of, ltT, ltF, leT, leF, eqT, eqF, okF_0, okF_s, gF_0, gF_s, consC_o, sF_0, sF_s, clsO_o, inA_i, ldA_i, stA_i, inJ_l, ldJ_l, stJ_l, inR_r, ldR_r, stR_r, tgR_r, lenA_i, lenA_l, lenA_r, lenA_ex, nl_i, nl_o, nl_l, nl_n, wd_n, wd_i, wd_l, wd_o, fit_i, fit_l, fit_o, K_v, K_n, true_and, and_true, Nat.reduceAdd, Nat.reduceLeDiff, Nat.reduceEqDiff, Nat.reduceMul, Nat.reduceLT, reduceIte, true_or, or_true, cmp_lt, cmp_gt, cmp_eq, wb_0, b_01, cmp_lt', cmp_gt', cmp_eq', b_0, b_1, wb_1, Int.reduceSub, Int.reduceToNat, List.getD_cons_succ, List.getD_cons_zero, Int.reduceLE, Int.reduceLT, Int.reduceEq, Int.reduceNeg, Int.reduceAdd, Int.reduceMul, and_self, em_b, ne_eq, not_false_eq_true, not_true_eq_false]
      try rfl
    | none =>
      have e0 : (oC 6 [vn, vi 0, vi 0, vi 0] : PC) = moO (fun _ => 0) vn := rfl
      have u1 : ∀ c, hp (mk1 h 4 c) h.1 = c := fun c => if_pos rfl
      have un : ∀ c (y : Nat), y < h.1 → hp (mk1 h 4 c) y = hp h y := fun c y hy => if_neg (by omega)
      have x1 : extO ow h (fun k => if k < h.1 then ow k else 10) (mk1 h 4 (moO (fun _ => 0) vn)) [10] := ⟨by show h.1 ≤ h.1 + 1; omega, fun k hk => if_pos hk, fun k hk _ => un _ k hk⟩
      have m6a := KCty_e x1 (by decide) m6
      obtain ⟨k1, n1, n2, n3, n4⟩ := Mo_init (a := h.1) m6a.1 (by omega) (u1 _) (by omega)
      have o1 : (fun k => if k < h.1 then ow k else 10) h.1 = 10 := if_neg (by omega)
      have o66 : (fun k => if k < h.1 then ow k else 10) 66 = 10 := by show (if 66 < h.1 then ow 66 else 10) = 10; rw [if_pos (by omega)]; exact t66
      have c2 : chg (fun k => if k < h.1 then ow k else 10) [10] (mk1 h 4 (moO (fun _ => 0) vn)) (hup (mk1 h 4 (moO (fun _ => 0) vn)) h.1 (moO k1 (vr ca))) := chg_up o1 (by decide)
      have c3 : chg (fun k => if k < h.1 then ow k else 10) [10] (mk1 h 4 (moO (fun _ => 0) vn)) (hup (hup (mk1 h 4 (moO (fun _ => 0) vn)) h.1 (moO k1 (vr ca))) 66 (aR 0 2 (fset f xn (some h.1)))) := chg_t c2 (chg_up o66 (by decide))
      have w64 : hp (hup (hup (mk1 h 4 (moO (fun _ => 0) vn)) h.1 (moO k1 (vr ca))) 66 (aR 0 2 (fset f xn (some h.1)))) 64 = moO j (vr ca) := by rw [hp_upn (by omega), hp_upn (by omega), un _ 64 (by omega)]; exact m1
      have wn : hp (hup (hup (mk1 h 4 (moO (fun _ => 0) vn)) h.1 (moO k1 (vr ca))) 66 (aR 0 2 (fset f xn (some h.1)))) h.1 = moO k1 (vr ca) := by rw [hp_upn (by omega), hp_up1]
      obtain ⟨k2, s1, s2, s3, s4⟩ := Mo_take (show 10 ≤ h.1 by omega) wn w64 ⟨ca, rfl⟩
      generalize hG : hup (hup (hup (mk1 h 4 (moO (fun _ => 0) vn)) h.1 (moO k1 (vr ca))) 66 (aR 0 2 (fset f xn (some h.1)))) h.1 (moO k2 (vr ca)) = G at s4
      have c4 : chg (fun k => if k < h.1 then ow k else 10) [10] (mk1 h 4 (moO (fun _ => 0) vn)) G := by rw [← hG]; exact chg_t c3 (chg_up o1 (by decide))
      have x4 := ext_t x1 (ext_c c4)
      have g1 : G.1 = h.1 + 1 := by rw [c4.1]; rfl
      have g2 : G.2.1 = h.2.1 + 4 := by rw [c4.2.1]; rfl
      have gn : hp G h.1 = moO k2 (vr ca) := by rw [← hG, hp_up1]
      have g66 : hp G 66 = aR 0 2 (fset f xn (some h.1)) := by rw [← hG, hp_upn (by omega), hp_up1]
      have hMa : MoP (fun k => if k < h.1 then ow k else 10) G h.1 ca (mC M) (mZ M) := ⟨k2, gn, by rw [s1]; exact m2, by rw [s2]; exact m3, by rw [s3]; exact m4, m5, KCty_c c4 (by decide) m6a⟩
      have gk : ∀ y, y < h.1 → y ≠ 66 → hp G y = hp h y := fun y hy hn => by rw [← hG, hp_upn (by omega), hp_upn hn, hp_upn (by omega), un _ y hy]
      have mk : ∀ (y : Nat), y < 2 → ImO kc (fun k => if k < h.1 then ow k else 10) G (fset f xn (some h.1) y) (upI (mI M) xn (some (mC M, mZ M)) y) := fun y hy => by
        by_cases e1 : y = xn
        · subst e1
          rw [show upI (mI M) y (some (mC M, mZ M)) y = some (mC M, mZ M) from if_pos rfl, fs_same]
          exact ⟨h.1, ca, rfl, o1, by omega, by omega, kc1, hMa⟩
        · rw [show upI (mI M) xn (some (mC M, mZ M)) y = mI M y from if_neg e1, fs_ne (by omega)]
          have hIy := img_at (x := y) hy i2 i3
          cases hm : mI M y with
          | none => rw [hm] at hIy; exact hIy
          | some w =>
            obtain ⟨c', z'⟩ := w
            rw [hm] at hIy
            obtain ⟨a', ca', w1, w2, w3, w4, w5, ⟨i6, w6, w7, w8, w9, w10, w11⟩⟩ := hIy
            exact ⟨a', ca', w1, by show (if a' < h.1 then ow a' else 10) = 10; rw [if_pos w4]; exact w2, w3, by omega, w5, ⟨i6, by rw [gk a' w4 (by omega)]; exact w6, w7, w8, w9, w10, KCty_e x4 (by decide) w11⟩⟩
      have i4' : ∀ a, fset f xn (some h.1) 0 = some a → fset f xn (some h.1) 1 ≠ some a := fun a e1 e2 => by
        have ol : ∀ (y : Nat), y < 2 → f y = some h.1 → False := fun y hy ey => by
          have hIy := img_at (x := y) hy i2 i3
          rw [ey] at hIy
          cases hm : mI M y with
          | none => rw [hm] at hIy; cases (show (some h.1 : Option Nat) = none from hIy)
          | some w =>
            obtain ⟨c', z'⟩ := w
            rw [hm] at hIy
            obtain ⟨a', ca', w1, w2, w3, w4, -⟩ := hIy
            cases w1
            omega
        rcases (by omega : xn = 0 ∨ xn = 1) with z | z <;> subst z
        · rw [show ((0 : Nat) : Int) = 0 from rfl, fs_same] at e1
          rw [show ((0 : Nat) : Int) = 0 from rfl, fs_ne (by omega)] at e2
          cases e1
          exact ol 1 (by omega) e2
        · rw [show ((1 : Nat) : Int) = 1 from rfl, fs_same] at e2
          rw [show ((1 : Nat) : Int) = 1 from rfl, fs_ne (by omega)] at e1
          cases e2
          exact ol 0 (by omega) e1
      obtain ⟨r1, r2⟩ := bk_i (I := upI (mI M) xn (some (mC M, mZ M))) hB' x4 (by omega) (by omega) ⟨_, g66, mk 0 (by omega), mk 1 (by omega), i4'⟩
      refine ⟨kc, _, G, e, 0, _, rfl, r1, r2, fun d Q => ?_⟩
      have a10 : hp (mk1 h 4 (moO (fun _ => 0) vn)) 10 = bkO i := by rw [un _ 10 (by omega)]; exact b1
      have a64 : hp (mk1 h 4 (moO (fun _ => 0) vn)) 64 = moO j (vr ca) := by rw [un _ 64 (by omega)]; exact m1
      have a66 : hp (mk1 h 4 (moO (fun _ => 0) vn)) 66 = aR 0 2 f := by rw [un _ 66 (by omega)]; exact i1
      have h10 : 10 ≤ h.1 := by omega
      have nn1 : (10 : Nat) ≠ h.1 := by omega
      have nn2 : (66 : Nat) ≠ h.1 := by omega
      have nn3 : (64 : Nat) ≠ h.1 := by omega
      have nn9 : h.1 ≠ 9 := by omega
      have nn66 : h.1 ≠ 66 := by omega
      simp (disch := omega) only [e_148_0, e_148_1, e_148_4, e_148_5, e_148_6, e_148_9, e_148_11, e_148_12, e_148_13, e_148_16, e_148_17, e_148_19, e_148_20, e_148_23, e_148_26i, e_148_26a, e_148_27, e_148_28, e_148_31, e_148_34, e_148_37, e_148_38, e_148_39, e_148_42, e_148_43, e_148_44, e_148_45, e_148_46, e_148_47, e_148_50, e_148_53, e_148_54, b1, i1, m1, hf, e_148_18n, e0, a10, a64, a66, h10, nn1, nn2, nn3, nn9, nn66, n4, s4, hup_n1, reduceCtorEq, true_and, bkO_c, bkO_g0, bkO_k0, bkO_g1, bkO_k1, bkO_g2, bkO_k2, bkO_g3, bkO_k3, bkO_g4, bkO_k4, bkO_g5, bkO_k5, bkO_g6, bkO_k6, bkO_g7, bkO_k7, bkO_g8, bkO_k8, bkO_g9, bkO_k9, bkO_g10, bkO_k10, bkO_g11, bkO_k11, bkO_g12, bkO_k12, bkO_g13, bkO_k13, bkO_g14, bkO_k14, bkO_g15, bkO_k15, bkO_g16, bkO_k16, bkO_g17, bkO_k17, bkO_s12, bkO_s16, bkO_s17, moO_c, moO_g0, moO_k0, moO_g1, moO_k1, moO_g2, moO_k2, moO_g3, moO_k3, moO_s0, moO_s1, moO_s2, moO_s3, hoO_c, hoO_g0, hoO_k0, hoO_g1, hoO_k1, hoO_g2, hoO_k2, hoO_g3, hoO_k3, hoO_g4, hoO_k4, hoO_g5, hoO_k5, hoO_g6, hoO_k6, hoO_g7, hoO_k7, hoO_g8, hoO_k8, hoO_g9, hoO_k9, hoO_s0, hoO_s1, hoO_s2, hoO_s9, iup_s, iup_n, hp_up1, hp_upn, ne_eq, not_false_eq_true, sh_0, sh_1, sh_2, sh_3, sh_4, sh_5, sh_8, sh_15, sh_16, sh_24, Int.reducePow, Int.cast_ofNat_Int, w_of, wl_of, ltT, ltF, leT, leF, eqT, eqF, okF_0, okF_s, gF_0, gF_s, consC_o, sF_0, sF_s, clsO_o, inA_i, ldA_i, stA_i, inJ_l, ldJ_l, stJ_l, inR_r, ldR_r, stR_r, tgR_r, lenA_i, lenA_l, lenA_r, lenA_ex, nl_i, nl_o, nl_l, nl_n, wd_n, wd_i, wd_l, wd_o, fit_i, fit_l, fit_o, K_v, K_n, true_and, and_true, Nat.reduceAdd, Nat.reduceLeDiff, Nat.reduceEqDiff, Nat.reduceMul, Nat.reduceLT, reduceIte, true_or, or_true, cmp_lt, cmp_gt, cmp_eq, wb_0, b_01, cmp_lt', cmp_gt', cmp_eq', b_0, b_1, wb_1, Int.reduceSub, Int.reduceToNat, List.getD_cons_succ, List.getD_cons_zero, Int.reduceLE, Int.reduceLT, Int.reduceEq, Int.reduceNeg, Int.reduceAdd, Int.reduceMul, and_self, em_b, ne_eq, not_false_eq_true, not_true_eq_false]
      try rfl
  · rw [if_neg q]
    refine cRes_r (v := -2) hB' rfl (fun d Q => ?_)
    have q' : x < 0 ∨ 2 ≤ x := by omega
    clear q
    rcases q' with g | g
    · simp (disch := omega) only [e_148_0, e_148_1, e_148_4, e_148_5, e_148_6, e_148_9, e_148_11, bkO_c, bkO_g0, bkO_k0, bkO_g1, bkO_k1, bkO_g2, bkO_k2, bkO_g3, bkO_k3, bkO_g4, bkO_k4, bkO_g5, bkO_k5, bkO_g6, bkO_k6, bkO_g7, bkO_k7, bkO_g8, bkO_k8, bkO_g9, bkO_k9, bkO_g10, bkO_k10, bkO_g11, bkO_k11, bkO_g12, bkO_k12, bkO_g13, bkO_k13, bkO_g14, bkO_k14, bkO_g15, bkO_k15, bkO_g16, bkO_k16, bkO_g17, bkO_k17, bkO_s12, bkO_s16, bkO_s17, moO_c, moO_g0, moO_k0, moO_g1, moO_k1, moO_g2, moO_k2, moO_g3, moO_k3, moO_s0, moO_s1, moO_s2, moO_s3, hoO_c, hoO_g0, hoO_k0, hoO_g1, hoO_k1, hoO_g2, hoO_k2, hoO_g3, hoO_k3, hoO_g4, hoO_k4, hoO_g5, hoO_k5, hoO_g6, hoO_k6, hoO_g7, hoO_k7, hoO_g8, hoO_k8, hoO_g9, hoO_k9, hoO_s0, hoO_s1, hoO_s2, hoO_s9, iup_s, iup_n, hp_up1, hp_upn, ne_eq, not_false_eq_true, sh_0, sh_1, sh_2, sh_3, sh_4, sh_5, sh_8, sh_15, sh_16, sh_24, Int.reducePow, Int.cast_ofNat_Int, w_of, wl_of, ltT, ltF, leT, leF, eqT, eqF, okF_0, okF_s, gF_0, gF_s, consC_o, sF_0, sF_s, clsO_o, inA_i, ldA_i, stA_i, inJ_l, ldJ_l, stJ_l, inR_r, ldR_r, stR_r, tgR_r, lenA_i, lenA_l, lenA_r, lenA_ex, nl_i, nl_o, nl_l, nl_n, wd_n, wd_i, wd_l, wd_o, fit_i, fit_l, fit_o, K_v, K_n, true_and, and_true, Nat.reduceAdd, Nat.reduceLeDiff, Nat.reduceEqDiff, Nat.reduceMul, Nat.reduceLT, reduceIte, true_or, or_true, cmp_lt, cmp_gt, cmp_eq, wb_0, b_01, cmp_lt', cmp_gt', cmp_eq', b_0, b_1, wb_1, Int.reduceSub, Int.reduceToNat, List.getD_cons_succ, List.getD_cons_zero, Int.reduceLE, Int.reduceLT, Int.reduceEq, Int.reduceNeg, Int.reduceAdd, Int.reduceMul, and_self, em_b, ne_eq, not_false_eq_true, not_true_eq_false]
      try rfl
    · simp (disch := omega) only [e_148_0, e_148_1, e_148_4, e_148_5, e_148_6, e_148_9, e_148_11, bkO_c, bkO_g0, bkO_k0, bkO_g1, bkO_k1, bkO_g2, bkO_k2, bkO_g3, bkO_k3, bkO_g4, bkO_k4, bkO_g5, bkO_k5, bkO_g6, bkO_k6, bkO_g7, bkO_k7, bkO_g8, bkO_k8, bkO_g9, bkO_k9, bkO_g10, bkO_k10, bkO_g11, bkO_k11, bkO_g12, bkO_k12, bkO_g13, bkO_k13, bkO_g14, bkO_k14, bkO_g15, bkO_k15, bkO_g16, bkO_k16, bkO_g17, bkO_k17, bkO_s12, bkO_s16, bkO_s17, moO_c, moO_g0, moO_k0, moO_g1, moO_k1, moO_g2, moO_k2, moO_g3, moO_k3, moO_s0, moO_s1, moO_s2, moO_s3, hoO_c, hoO_g0, hoO_k0, hoO_g1, hoO_k1, hoO_g2, hoO_k2, hoO_g3, hoO_k3, hoO_g4, hoO_k4, hoO_g5, hoO_k5, hoO_g6, hoO_k6, hoO_g7, hoO_k7, hoO_g8, hoO_k8, hoO_g9, hoO_k9, hoO_s0, hoO_s1, hoO_s2, hoO_s9, iup_s, iup_n, hp_up1, hp_upn, ne_eq, not_false_eq_true, sh_0, sh_1, sh_2, sh_3, sh_4, sh_5, sh_8, sh_15, sh_16, sh_24, Int.reducePow, Int.cast_ofNat_Int, w_of, wl_of, ltT, ltF, leT, leF, eqT, eqF, okF_0, okF_s, gF_0, gF_s, consC_o, sF_0, sF_s, clsO_o, inA_i, ldA_i, stA_i, inJ_l, ldJ_l, stJ_l, inR_r, ldR_r, stR_r, tgR_r, lenA_i, lenA_l, lenA_r, lenA_ex, nl_i, nl_o, nl_l, nl_n, wd_n, wd_i, wd_l, wd_o, fit_i, fit_l, fit_o, K_v, K_n, true_and, and_true, Nat.reduceAdd, Nat.reduceLeDiff, Nat.reduceEqDiff, Nat.reduceMul, Nat.reduceLT, reduceIte, true_or, or_true, cmp_lt, cmp_gt, cmp_eq, wb_0, b_01, cmp_lt', cmp_gt', cmp_eq', b_0, b_1, wb_1, Int.reduceSub, Int.reduceToNat, List.getD_cons_succ, List.getD_cons_zero, Int.reduceLE, Int.reduceLT, Int.reduceEq, Int.reduceNeg, Int.reduceAdd, Int.reduceMul, and_self, em_b, ne_eq, not_false_eq_true, not_true_eq_false]
      try rfl
theorem C_restore {h : PH} {x : Int} (hB : bkI kc ow h M S0 e k) (h1 : -2147483648 ≤ x) (h2 : x < 2147483648) : cRes ow h S0 k 149 [some (vr 10), some (vi x), none] vi (fun v M' => (v, M') = restF M x) := by
  have hB' := hB
  obtain ⟨hF, ⟨⟨i, b1, b2, b3, b4⟩, ⟨ca, kc1, hM⟩, ⟨i65, p65, hp65⟩, ⟨f, i1, i2, i3, i4⟩, hPa, s6, s7, s8⟩, ⟨ca0, sky0, hH⟩, he0, nd, nc, nk, nr, nb, hE, hR⟩ := hB
  have h90 := hF.1
  obtain ⟨j, m1, m2, m3, m4, m5, m6⟩ := hM
  obtain ⟨t64, t65, t66, t67, -, -, -, t10, -⟩ := tg_64 hF
  unfold restF
  by_cases q : 0 ≤ x ∧ x ≤ 1
  · rw [if_pos q]
    obtain ⟨q1, q2⟩ := q
    obtain ⟨xn, rfl⟩ : ∃ n : Nat, x = n := ⟨x.toNat, by omega⟩
    rw [Int.toNat_natCast]
    have hxn : xn < 2 := by omega
    have hI := img_at (x := xn) hxn i2 i3
    cases hm : mI M xn with
    | none =>
      rw [hm] at hI
      have hf : f xn = none := hI
      refine cRes_r (v := -5) hB' rfl (fun d Q => ?_)
      simp (disch := omega) only [e_149_0, e_149_1, e_149_4, e_149_5, e_149_6, e_149_9, e_149_11, e_149_12, e_149_13, e_149_16, e_149_17, e_149_19, e_149_20, e_149_23, e_149_25, b1, i1, hf, e_149_18n, reduceCtorEq, true_and, bkO_c, bkO_g0, bkO_k0, bkO_g1, bkO_k1, bkO_g2, bkO_k2, bkO_g3, bkO_k3, bkO_g4, bkO_k4, bkO_g5, bkO_k5, bkO_g6, bkO_k6, bkO_g7, bkO_k7, bkO_g8, bkO_k8, bkO_g9, bkO_k9, bkO_g10, bkO_k10, bkO_g11, bkO_k11, bkO_g12, bkO_k12, bkO_g13, bkO_k13, bkO_g14, bkO_k14, bkO_g15, bkO_k15, bkO_g16, bkO_k16, bkO_g17, bkO_k17, bkO_s12, bkO_s16, bkO_s17, moO_c, moO_g0, moO_k0, moO_g1, moO_k1, moO_g2, moO_k2, moO_g3, moO_k3, moO_s0, moO_s1, moO_s2, moO_s3, hoO_c, hoO_g0, hoO_k0, hoO_g1, hoO_k1, hoO_g2, hoO_k2, hoO_g3, hoO_k3, hoO_g4, hoO_k4, hoO_g5, hoO_k5, hoO_g6, hoO_k6, hoO_g7, hoO_k7, hoO_g8, hoO_k8, hoO_g9, hoO_k9, hoO_s0, hoO_s1, hoO_s2, hoO_s9, iup_s, iup_n, hp_up1, hp_upn, ne_eq, not_false_eq_true, sh_0, sh_1, sh_2, sh_3, sh_4, sh_5, sh_8, sh_15, sh_16, sh_24, Int.reducePow, Int.cast_ofNat_Int, w_of, wl_of, ltT, ltF, leT, leF, eqT, eqF, okF_0, okF_s, gF_0, gF_s, consC_o, sF_0, sF_s, clsO_o, inA_i, ldA_i, stA_i, inJ_l, ldJ_l, stJ_l, inR_r, ldR_r, stR_r, tgR_r, lenA_i, lenA_l, lenA_r, lenA_ex, nl_i, nl_o, nl_l, nl_n, wd_n, wd_i, wd_l, wd_o, fit_i, fit_l, fit_o, K_v, K_n, true_and, and_true, Nat.reduceAdd, Nat.reduceLeDiff, Nat.reduceEqDiff, Nat.reduceMul, Nat.reduceLT, reduceIte, true_or, or_true, cmp_lt, cmp_gt, cmp_eq, wb_0, b_01, cmp_lt', cmp_gt', cmp_eq', b_0, b_1, wb_1, Int.reduceSub, Int.reduceToNat, List.getD_cons_succ, List.getD_cons_zero, Int.reduceLE, Int.reduceLT, Int.reduceEq, Int.reduceNeg, Int.reduceAdd, Int.reduceMul, and_self, em_b, ne_eq, not_false_eq_true, not_true_eq_false]
      try rfl
    | some y =>
      obtain ⟨c', z'⟩ := y
      rw [hm] at hI
      obtain ⟨a, ca', w1, ta, a90, al, w5, ⟨ia, w6, w7, w8, w9, w10, w11⟩⟩ := hI
      obtain ⟨ka, n1, n2, n3, n4⟩ := Mo_take (a := 64) (b := a) (by omega) m1 w6 ⟨ca', rfl⟩
      dsimp only
      have hch : chg ow [8, 11] h (hup (hup h 64 (moO ka (vr ca'))) 10 (bkO (iup i 12 0))) := chg_t (chg_up t64 (by decide)) (chg_up t10 (by decide))
      have hx' := ext_c hch
      have hMn : MoP ow (hup (hup h 64 (moO ka (vr ca'))) 10 (bkO (iup i 12 0))) 64 ca' c' z' := ⟨ka, by rw [hp_upn (by omega), hp_up1], by rw [n1]; exact w7, by rw [n2]; exact w8, by rw [n3]; exact w9, w10, KCty_c hch (by decide) w11⟩
      refine ⟨kc, ow, _, e, 0, (c', z', [], mI M, M.2.2.2.2), rfl, ⟨chg_F hch hF, ⟨⟨_, hp_up1, iup_s, by rw [iup_n (by omega)]; exact b3, by rw [iup_n (by omega)]; exact b4⟩, ⟨ca', w5, hMn⟩, ⟨i65, p65, by rw [hp_upn (by omega), hp_upn (by omega)]; exact hp65⟩, ImP_e hF hx' (by decide) (by decide) ⟨f, i1, i2, i3, i4⟩, ?_, TrP_e hF hx' (by decide) s6, TkP_e hF hx' (by decide) s7, RdP_e hF hx' (by decide) s8⟩, ⟨ca0, sky0, HoP_c hF hch (by decide) (by decide) hH⟩, by omega, nd, nc, nk, nr, nb, EngP_e hF hx' (by decide) hE, room_up (room_same hch.1 hch.2.1 hR)⟩, ext_w hx' (by decide), fun d Q => ?_⟩
      · obtain ⟨fp, p1, -⟩ := hPa
        exact ⟨fp, by rw [hp_upn (by omega), hp_upn (by omega)]; exact p1, Nat.zero_le _, (fun y hy => by cases hy), fun k z hz => by simp [mP] at hz⟩
      · have a9 : a ≠ 9 := by omega
        have sn : (some a : Option Nat) ≠ some 9 := fun z => a9 (Option.some.inj z)
        have sn2 : ¬ ((some a : Option Nat) = none) := fun z => by cases z
        have a10 : hp (hup h 64 (moO ka (vr ca'))) 10 = bkO i := by rw [hp_upn (by omega)]; exact b1
        have a9f := eq_false a9
        simp (disch := omega) only [e_149_0, e_149_1, e_149_4, e_149_5, e_149_6, e_149_9, e_149_11, e_149_12, e_149_13, e_149_16, e_149_17, e_149_18, e_149_19, e_149_20, e_149_26, e_149_27, e_149_30, e_149_31, e_149_34, e_149_35, e_149_36, e_149_39, e_149_40, b1, i1, m1, w1, w6, n4, a10, a9f, sn, sn2, if_false, true_and, bkO_c, bkO_g0, bkO_k0, bkO_g1, bkO_k1, bkO_g2, bkO_k2, bkO_g3, bkO_k3, bkO_g4, bkO_k4, bkO_g5, bkO_k5, bkO_g6, bkO_k6, bkO_g7, bkO_k7, bkO_g8, bkO_k8, bkO_g9, bkO_k9, bkO_g10, bkO_k10, bkO_g11, bkO_k11, bkO_g12, bkO_k12, bkO_g13, bkO_k13, bkO_g14, bkO_k14, bkO_g15, bkO_k15, bkO_g16, bkO_k16, bkO_g17, bkO_k17, bkO_s12, bkO_s16, bkO_s17, moO_c, moO_g0, moO_k0, moO_g1, moO_k1, moO_g2, moO_k2, moO_g3, moO_k3, moO_s0, moO_s1, moO_s2, moO_s3, hoO_c, hoO_g0, hoO_k0, hoO_g1, hoO_k1, hoO_g2, hoO_k2, hoO_g3, hoO_k3, hoO_g4, hoO_k4, hoO_g5, hoO_k5, hoO_g6, hoO_k6, hoO_g7, hoO_k7, hoO_g8, hoO_k8, hoO_g9, hoO_k9, hoO_s0, hoO_s1, hoO_s2, hoO_s9, iup_s, iup_n, hp_up1, hp_upn, ne_eq, not_false_eq_true, sh_0, sh_1, sh_2, sh_3, sh_4, sh_5, sh_8, sh_15, sh_16, sh_24, Int.reducePow, Int.cast_ofNat_Int, w_of, wl_of, ltT, ltF, leT, leF, eqT, eqF, okF_0, okF_s, gF_0, gF_s, consC_o, sF_0, sF_s, clsO_o, inA_i, ldA_i, stA_i, inJ_l, ldJ_l, stJ_l, inR_r, ldR_r, stR_r, tgR_r, lenA_i, lenA_l, lenA_r, lenA_ex, nl_i, nl_o, nl_l, nl_n, wd_n, wd_i, wd_l, wd_o, fit_i, fit_l, fit_o, K_v, K_n, true_and, and_true, Nat.reduceAdd, Nat.reduceLeDiff, Nat.reduceEqDiff, Nat.reduceMul, Nat.reduceLT, reduceIte, true_or, or_true, cmp_lt, cmp_gt, cmp_eq, wb_0, b_01, cmp_lt', cmp_gt', cmp_eq', b_0, b_1, wb_1, Int.reduceSub, Int.reduceToNat, List.getD_cons_succ, List.getD_cons_zero, Int.reduceLE, Int.reduceLT, Int.reduceEq, Int.reduceNeg, Int.reduceAdd, Int.reduceMul, and_self, em_b, ne_eq, not_false_eq_true, not_true_eq_false]
        try rfl
  · rw [if_neg q]
    refine cRes_r (v := -2) hB' rfl (fun d Q => ?_)
    have q' : x < 0 ∨ 2 ≤ x := by omega
    clear q
    rcases q' with g | g
    · simp (disch := omega) only [e_149_0, e_149_1, e_149_4, e_149_5, e_149_6, e_149_9, e_149_11, bkO_c, bkO_g0, bkO_k0, bkO_g1, bkO_k1, bkO_g2, bkO_k2, bkO_g3, bkO_k3, bkO_g4, bkO_k4, bkO_g5, bkO_k5, bkO_g6, bkO_k6, bkO_g7, bkO_k7, bkO_g8, bkO_k8, bkO_g9, bkO_k9, bkO_g10, bkO_k10, bkO_g11, bkO_k11, bkO_g12, bkO_k12, bkO_g13, bkO_k13, bkO_g14, bkO_k14, bkO_g15, bkO_k15, bkO_g16, bkO_k16, bkO_g17, bkO_k17, bkO_s12, bkO_s16, bkO_s17, moO_c, moO_g0, moO_k0, moO_g1, moO_k1, moO_g2, moO_k2, moO_g3, moO_k3, moO_s0, moO_s1, moO_s2, moO_s3, hoO_c, hoO_g0, hoO_k0, hoO_g1, hoO_k1, hoO_g2, hoO_k2, hoO_g3, hoO_k3, hoO_g4, hoO_k4, hoO_g5, hoO_k5, hoO_g6, hoO_k6, hoO_g7, hoO_k7, hoO_g8, hoO_k8, hoO_g9, hoO_k9, hoO_s0, hoO_s1, hoO_s2, hoO_s9, iup_s, iup_n, hp_up1, hp_upn, ne_eq, not_false_eq_true, sh_0, sh_1, sh_2, sh_3, sh_4, sh_5, sh_8, sh_15, sh_16, sh_24, Int.reducePow, Int.cast_ofNat_Int, w_of, wl_of, ltT, ltF, leT, leF, eqT, eqF, okF_0, okF_s, gF_0, gF_s, consC_o, sF_0, sF_s, clsO_o, inA_i, ldA_i, stA_i, inJ_l, ldJ_l, stJ_l, inR_r, ldR_r, stR_r, tgR_r, lenA_i, lenA_l, lenA_r, lenA_ex, nl_i, nl_o, nl_l, nl_n, wd_n, wd_i, wd_l, wd_o, fit_i, fit_l, fit_o, K_v, K_n, true_and, and_true, Nat.reduceAdd, Nat.reduceLeDiff, Nat.reduceEqDiff, Nat.reduceMul, Nat.reduceLT, reduceIte, true_or, or_true, cmp_lt, cmp_gt, cmp_eq, wb_0, b_01, cmp_lt', cmp_gt', cmp_eq', b_0, b_1, wb_1, Int.reduceSub, Int.reduceToNat, List.getD_cons_succ, List.getD_cons_zero, Int.reduceLE, Int.reduceLT, Int.reduceEq, Int.reduceNeg, Int.reduceAdd, Int.reduceMul, and_self, em_b, ne_eq, not_false_eq_true, not_true_eq_false]
      try rfl
    · simp (disch := omega) only [e_149_0, e_149_1, e_149_4, e_149_5, e_149_6, e_149_9, e_149_11, bkO_c, bkO_g0, bkO_k0, bkO_g1, bkO_k1, bkO_g2, bkO_k2, bkO_g3, bkO_k3, bkO_g4, bkO_k4, bkO_g5, bkO_k5, bkO_g6, bkO_k6, bkO_g7, bkO_k7, bkO_g8, bkO_k8, bkO_g9, bkO_k9, bkO_g10, bkO_k10, bkO_g11, bkO_k11, bkO_g12, bkO_k12, bkO_g13, bkO_k13, bkO_g14, bkO_k14, bkO_g15, bkO_k15, bkO_g16, bkO_k16, bkO_g17, bkO_k17, bkO_s12, bkO_s16, bkO_s17, moO_c, moO_g0, moO_k0, moO_g1, moO_k1, moO_g2, moO_k2, moO_g3, moO_k3, moO_s0, moO_s1, moO_s2, moO_s3, hoO_c, hoO_g0, hoO_k0, hoO_g1, hoO_k1, hoO_g2, hoO_k2, hoO_g3, hoO_k3, hoO_g4, hoO_k4, hoO_g5, hoO_k5, hoO_g6, hoO_k6, hoO_g7, hoO_k7, hoO_g8, hoO_k8, hoO_g9, hoO_k9, hoO_s0, hoO_s1, hoO_s2, hoO_s9, iup_s, iup_n, hp_up1, hp_upn, ne_eq, not_false_eq_true, sh_0, sh_1, sh_2, sh_3, sh_4, sh_5, sh_8, sh_15, sh_16, sh_24, Int.reducePow, Int.cast_ofNat_Int, w_of, wl_of, ltT, ltF, leT, leF, eqT, eqF, okF_0, okF_s, gF_0, gF_s, consC_o, sF_0, sF_s, clsO_o, inA_i, ldA_i, stA_i, inJ_l, ldJ_l, stJ_l, inR_r, ldR_r, stR_r, tgR_r, lenA_i, lenA_l, lenA_r, lenA_ex, nl_i, nl_o, nl_l, nl_n, wd_n, wd_i, wd_l, wd_o, fit_i, fit_l, fit_o, K_v, K_n, true_and, and_true, Nat.reduceAdd, Nat.reduceLeDiff, Nat.reduceEqDiff, Nat.reduceMul, Nat.reduceLT, reduceIte, true_or, or_true, cmp_lt, cmp_gt, cmp_eq, wb_0, b_01, cmp_lt', cmp_gt', cmp_eq', b_0, b_1, wb_1, Int.reduceSub, Int.reduceToNat, List.getD_cons_succ, List.getD_cons_zero, Int.reduceLE, Int.reduceLT, Int.reduceEq, Int.reduceNeg, Int.reduceAdd, Int.reduceMul, and_self, em_b, ne_eq, not_false_eq_true, not_true_eq_false]
      try rfl
end parts

/-! THE CLASS: its invariant -/
def szL : List Nat := [1, 4, 8, 12, 16, 20, 32, 128, 192, 288, 512, 800, 1536, 5184, 12288, 24000]
def sumLe (n : Nat) : Nat := (szL.filter (fun z => decide (z ≤ n))).sum
def cntLe (n : Nat) : Nat := (szL.filter (fun z => decide (z ≤ n))).length
theorem szC_mem {c : KC} (hK : okK c) : szC c ∈ szL := by
  obtain ⟨h1, h2, h3⟩ := hK
  unfold szC kPw
  have hN : kN c = 0 ∨ kN c = 1 ∨ kN c = 2 ∨ kN c = 3 := by omega
  have hP : kP c = 1 ∨ kP c = 2 ∨ kP c = 3 ∨ kP c = 4 ∨ kP c = 5 := by omega
  rcases hN with e | e | e | e <;> rcases hP with f | f | f | f | f <;> rw [e, f] <;> decide
theorem le_mono {n m : Nat} (h : n ≤ m) : sumLe n ≤ sumLe m ∧ cntLe n ≤ cntLe m := by
  unfold sumLe cntLe szL
  have key : ∀ L : List Nat, (L.filter (fun z => decide (z ≤ n))).sum ≤ (L.filter (fun z => decide (z ≤ m))).sum ∧ (L.filter (fun z => decide (z ≤ n))).length ≤ (L.filter (fun z => decide (z ≤ m))).length := by
    intro L
    induction L with
    | nil => exact ⟨Nat.le_refl _, Nat.le_refl _⟩
    | cons a r ih =>
      rw [List.filter_cons, List.filter_cons]
      by_cases q : a ≤ n
      · rw [decide_eq_true q, decide_eq_true (show a ≤ m by omega), if_pos rfl, if_pos rfl, List.sum_cons, List.sum_cons, List.length_cons, List.length_cons]
        omega
      · rw [decide_eq_false q, if_neg (by decide)]
        by_cases q2 : a ≤ m
        · rw [decide_eq_true q2, if_pos rfl, List.sum_cons, List.length_cons]; omega
        · rw [decide_eq_false q2, if_neg (by decide)]; exact ih
  exact key _
theorem le_grow {n z : Nat} (hz : z ∈ szL) (h : n < z) : sumLe n + z ≤ sumLe z ∧ cntLe n + 1 ≤ cntLe z := by
  have h1 := le_mono (n := n) (m := z - 1) (by omega)
  have h2 : sumLe (z - 1) + z ≤ sumLe z ∧ cntLe (z - 1) + 1 ≤ cntLe z := by
    unfold szL at hz
    simp only [List.mem_cons, List.not_mem_nil, or_false] at hz
    rcases hz with e | e | e | e | e | e | e | e | e | e | e | e | e | e | e | e <;> subst e <;> decide
  omega
/-- room: S0 and 90 at the beginning, k calls since -/
def roomI (h : PH) (S0 k nd nc nk nr nb : Nat) : Prop := h.1 ≤ 90 + 7 * k + 3 * cntLe nd + 2 * cntLe nc + cntLe nk + 2 * cntLe nr + cntLe nb ∧ h.2.1 ≤ S0 + 1100 * k + 3 * sumLe nd + 2 * sumLe nc + sumLe nk + 2 * sumLe nr + sumLe nb
def allT : List Nat := [1, 2, 3, 4, 5, 6, 7, 8, 9, 10, 11, 12, 13, 14, 16, 17, 18, 20]
def cellC (h : PH) : Prop := (∃ i cca p, hp h 41 = kpO i (vr cca) p ∧ cca < h.1) ∧ (∃ i cca p q, hp h 38 = cmO i (vr cca) p q ∧ cca < h.1) ∧ (∃ i cca p, hp h 59 = beO i (vr cca) p ∧ cca < h.1)
def Wd (h : PH) : Prop := (∃ f, hp h 43 = aI 0 16 f) ∧ ∃ f, hp h 44 = aI 0 16 f
/-- the helpers, at any time -/
def EngP (kc : Nat → KC) (ow : Nat → Nat) (h : PH) (nd nc nk nr nb : Nat) : Prop := DesP ow h nd ∧ ComP kc ow h nc ∧ KepP kc ow h nk ∧ Wd h ∧ (∃ lw, RowV ow h nr lw) ∧ AhP h ∧ BeaP kc ow h nb ∧ ToP h ∧ cellC h
theorem ComP_e {kc : Nat → KC} {ow ow' : Nat → Nat} {h h' : PH} {n : Nat} {T : List Nat} (hF : owF ow h) (hx : extO ow h ow' h' T) (ht : ¬ 3 ∈ T) (hP : ComP kc ow h n) : ComP kc ow' h' n := by
  obtain ⟨i, cca, q, g, fq, fg, m, ⟨c1, c2, c3⟩, ⟨w1, w2, w3, w4, w5, w6, w7, w8⟩, p⟩ := hP
  have h90 := hF.1
  exact ⟨i, cca, q, g, fq, fg, m, ⟨by rw [hx.2.2 38 (by omega) (by rw [tg_38 hF]; exact ht)]; exact c1, by rw [hx.2.2 q w6 (by rw [w1]; exact ht)]; exact c2, by rw [hx.2.2 g w7 (by rw [w2]; exact ht)]; exact c3⟩, ⟨by rw [hx.2.1 q w6]; exact w1, by rw [hx.2.1 g w7]; exact w2, w3, w4, w5, Nat.lt_of_lt_of_le w6 hx.1, Nat.lt_of_lt_of_le w7 hx.1, w8⟩, p⟩
theorem RowV_e {ow ow' : Nat → Nat} {h h' : PH} {n : Nat} {lw : List Int} {T : List Nat} (hF : owF ow h) (hx : extO ow h ow' h' T) (ht : ¬ 5 ∈ T) (ht2 : ¬ 18 ∈ T) (hP : RowV ow h n lw) : RowV ow' h' n lw := by
  obtain ⟨i, kA, sA, f, g, fw, v1, v2, v3, v3', v4, v5, v6, v7, v8, v9, v10, v11, v12, v13, v14, v15, v16⟩ := hP
  have h90 := hF.1
  exact ⟨i, kA, sA, f, g, fw, by rw [hx.2.2 45 (by omega) (by rw [show ow 45 = 5 from hF.2 45 (by omega)]; exact ht)]; exact v1, by rw [hx.2.2 48 (by omega) (by rw [show ow 48 = 18 from hF.2 48 (by omega)]; exact ht2)]; exact v2, v3, v3', v4, by rw [hx.2.2 kA v14 (by rw [v9]; exact ht)]; exact v5, by rw [hx.2.2 sA v15 (by rw [v10]; exact ht)]; exact v6, v7, v8, by rw [hx.2.1 kA v14]; exact v9, by rw [hx.2.1 sA v15]; exact v10, v11, v12, v13, Nat.lt_of_lt_of_le v14 hx.1, Nat.lt_of_lt_of_le v15 hx.1, v16⟩
theorem Wd_e {ow ow' : Nat → Nat} {h h' : PH} {T : List Nat} (hF : owF ow h) (hx : extO ow h ow' h' T) (ht : ¬ 17 ∈ T) (hP : Wd h) : Wd h' := by
  obtain ⟨⟨f, hf⟩, g, hg⟩ := hP
  have h90 := hF.1
  exact ⟨⟨f, by rw [hx.2.2 43 (by omega) (by rw [show ow 43 = 17 from hF.2 43 (by omega)]; exact ht)]; exact hf⟩, g, by rw [hx.2.2 44 (by omega) (by rw [show ow 44 = 17 from hF.2 44 (by omega)]; exact ht)]; exact hg⟩
theorem cell_41 {ow ow' : Nat → Nat} {h h' : PH} {T : List Nat} (hF : owF ow h) (hx : extO ow h ow' h' T) (ht : ¬ 4 ∈ T) (hP : ∃ i cca p, hp h 41 = kpO i (vr cca) p ∧ cca < h.1) : ∃ i cca p, hp h' 41 = kpO i (vr cca) p ∧ cca < h'.1 := by
  obtain ⟨i, cca, p, h1, h2⟩ := hP
  have h90 := hF.1
  exact ⟨i, cca, p, by rw [hx.2.2 41 (by omega) (by rw [tg_41 hF]; exact ht)]; exact h1, Nat.lt_of_lt_of_le h2 hx.1⟩
theorem cell_38 {ow ow' : Nat → Nat} {h h' : PH} {T : List Nat} (hF : owF ow h) (hx : extO ow h ow' h' T) (ht : ¬ 3 ∈ T) (hP : ∃ i cca p q, hp h 38 = cmO i (vr cca) p q ∧ cca < h.1) : ∃ i cca p q, hp h' 38 = cmO i (vr cca) p q ∧ cca < h'.1 := by
  obtain ⟨i, cca, p, q, h1, h2⟩ := hP
  have h90 := hF.1
  exact ⟨i, cca, p, q, by rw [hx.2.2 38 (by omega) (by rw [tg_38 hF]; exact ht)]; exact h1, Nat.lt_of_lt_of_le h2 hx.1⟩
theorem cell_59 {ow ow' : Nat → Nat} {h h' : PH} {T : List Nat} (hF : owF ow h) (hx : extO ow h ow' h' T) (ht : ¬ 6 ∈ T) (hP : ∃ i cca p, hp h 59 = beO i (vr cca) p ∧ cca < h.1) : ∃ i cca p, hp h' 59 = beO i (vr cca) p ∧ cca < h'.1 := by
  obtain ⟨i, cca, p, h1, h2⟩ := hP
  have h90 := hF.1
  exact ⟨i, cca, p, by rw [hx.2.2 59 (by omega) (by rw [show ow 59 = 6 from hF.2 59 (by omega)]; exact ht)]; exact h1, Nat.lt_of_lt_of_le h2 hx.1⟩
/-- nothing of the helpers changed -/
theorem EngP_e {kc : Nat → KC} {ow ow' : Nat → Nat} {h h' : PH} {nd nc nk nr nb : Nat} {T : List Nat} (hF : owF ow h) (hx : extO ow h ow' h' T) (ht : ∀ t, t ∈ [0, 2, 3, 4, 5, 6, 7, 17, 18, 20] → ¬ t ∈ T) (hP : EngP kc ow h nd nc nk nr nb) : EngP kc ow' h' nd nc nk nr nb := by
  obtain ⟨p1, p2, p3, p4, ⟨lw, p5⟩, p6, p7, p8, p9, p10, p11⟩ := hP
  exact ⟨DesP_e hF hx (ht 2 (by decide)) p1, ComP_e hF hx (ht 3 (by decide)) p2, KepP_e hF hx (ht 4 (by decide)) p3, Wd_e hF hx (ht 17 (by decide)) p4, ⟨lw, RowV_e hF hx (ht 5 (by decide)) (ht 18 (by decide)) p5⟩, AhP_e hF hx (ht 0 (by decide)) (ht 20 (by decide)) p6, BeaP_e hF hx (ht 6 (by decide)) p7, ToP_e hF hx (ht 7 (by decide)) p8, cell_41 hF hx (ht 4 (by decide)) p9, cell_38 hF hx (ht 3 (by decide)) p10, cell_59 hF hx (ht 6 (by decide)) p11⟩
def ImO (kc : Nat → KC) (ow : Nat → Nat) (h : PH) (x : Option Nat) (m : Option (KC × ZT)) : Prop := match m with
  | none => x = none
  | some (c, z) => ∃ a ca, x = some a ∧ ow a = 10 ∧ 90 ≤ a ∧ a < h.1 ∧ kc ca = c ∧ MoP ow h a ca c z
def ImP (kc : Nat → KC) (ow : Nat → Nat) (h : PH) (img : Nat → Option (KC × ZT)) : Prop := ∃ (f : Int → Option Nat), hp h 66 = aR 0 2 f ∧ ImO kc ow h (f 0) (img 0) ∧ ImO kc ow h (f 1) (img 1) ∧ (∀ a, f 0 = some a → f 1 ≠ some a)
def PaP (h : PH) (c : KC) (past : List ZT) : Prop := ∃ f : Int → Int, hp h 67 = aI 0 30 f ∧ past.length ≤ 10 ∧ (∀ y, y ∈ past → okZ c y) ∧ ∀ (k : Nat) z, past[k]? = some z → f ((3 * k : Nat) : Int) = (encC c z.1 : Int) ∧ f ((3 * k + 1 : Nat) : Int) = (z.2.1 : Int) ∧ f ((3 * k + 2 : Nat) : Int) = (z.2.2 : Int)
def tyO (T : TT) (fn fs fo : Int → Int) : Prop := ∀ t : Nat, t < 4 → match T t with
  | none => fs t = -1
  | some (so, l) => fs t = (l.length : Int) ∧ fo t = (so : Int) ∧ so < 4 ∧ l.length ≤ 40 ∧ ∀ (i : Nat) x, l[i]? = some x → fn ((40 * t + i : Nat) : Int) = x ∧ i64 x
def TrP (h : PH) (T : TT) : Prop := ∃ fn fs fo : Int → Int, hp h 68 = aL 160 fn ∧ hp h 69 = aI 0 4 fs ∧ hp h 70 = aI 0 4 fo ∧ tyO T fn fs fo
def TkP (h : PH) (b : List Int) : Prop := ∃ (i : Nat → Int) (f : Int → Int), hp h 11 = tkO i ∧ hp h 12 = aI 1 900 f ∧ i 1 = (b.length : Int) ∧ b.length ≤ 900 ∧ ∀ (k : Nat) x, b[k]? = some x → f k = Int.bmod x 256 ∧ 0 ≤ x ∧ x < 256
def RdP (h : PH) : Prop := ∃ (i : Nat → Int) (f14 f15 f16 f17 f18 f19 : Int → Int), hp h 13 = rdO i ∧ hp h 14 = aI 0 900 f14 ∧ hp h 15 = aI 0 5 f15 ∧ hp h 16 = aI 0 5 f16 ∧ hp h 17 = aI 0 3 f17 ∧ hp h 18 = aI 0 3 f18 ∧ hp h 19 = aI 0 3 f19
def BkO (h : PH) (M : MS) : Prop := ∃ i : Nat → Int, hp h 10 = bkO i ∧ i 12 = ((mP M).length : Int) ∧ i 16 = mF M ∧ i 17 = mG M
/-- what it stands for -/
def StP (kc : Nat → KC) (ow : Nat → Nat) (h : PH) (M : MS) : Prop := BkO h M ∧ (∃ ca, kc ca = mC M ∧ MoP ow h 64 ca (mC M) (mZ M)) ∧ (∃ i p, hp h 65 = moO i p) ∧ ImP kc ow h (mI M) ∧ PaP h (mC M) (mP M) ∧ TrP h (mT M) ∧ TkP h (mB M) ∧ RdP h
def bkI (kc : Nat → KC) (ow : Nat → Nat) (h : PH) (M : MS) (S0 e k : Nat) : Prop := owF ow h ∧ StP kc ow h M ∧ (∃ ca0 sky0, HoP ow h ca0 (kc ca0) sky0 e) ∧ e ≤ 50 * k + 1 ∧ ∃ nd nc nk nr nb, EngP kc ow h nd nc nk nr nb ∧ roomI h S0 k nd nc nk nr nb
theorem tg_64 {ow : Nat → Nat} {h : PH} (hF : owF ow h) : ow 64 = 8 ∧ ow 65 = 9 ∧ ow 66 = 10 ∧ ow 67 = 16 ∧ ow 68 = 12 ∧ ow 69 = 12 ∧ ow 70 = 12 ∧ ow 10 = 11 ∧ ow 11 = 13 ∧ ow 12 = 13 := ⟨hF.2 64 (by omega), hF.2 65 (by omega), hF.2 66 (by omega), hF.2 67 (by omega), hF.2 68 (by omega), hF.2 69 (by omega), hF.2 70 (by omega), hF.2 10 (by omega), hF.2 11 (by omega), hF.2 12 (by omega)⟩
theorem tg_rd {ow : Nat → Nat} {h : PH} (hF : owF ow h) {k : Nat} (h1 : 13 ≤ k) (h2 : k ≤ 19) : ow k = 14 := by
  rw [hF.2 k (by omega)]
  unfold tgF
  rw [if_neg (by omega), if_neg (by omega), if_neg (by omega), if_pos (by omega)]
section frames
variable {kc : Nat → KC} {ow ow' : Nat → Nat} {h h' : PH} {T : List Nat}
theorem BkO_e {M : MS} (hF : owF ow h) (hx : extO ow h ow' h' T) (ht : ¬ 11 ∈ T) (hP : BkO h M) : BkO h' M := by
  obtain ⟨i, b1, b2⟩ := hP
  have h90 := hF.1
  exact ⟨i, by rw [hx.2.2 10 (by omega) (by rw [(tg_64 hF).2.2.2.2.2.2.2.1]; exact ht)]; exact b1, b2⟩
theorem ImO_e {x : Option Nat} {m : Option (KC × ZT)} (hx : extO ow h ow' h' T) (h0 : ¬ 0 ∈ T) (ht : ¬ 10 ∈ T) (hP : ImO kc ow h x m) : ImO kc ow' h' x m := by
  match m, hP with
  | none, hP => exact hP
  | some (c, z), ⟨a, ca, a1, a2, a3, a4, a5, a6⟩ => exact ⟨a, ca, a1, by rw [hx.2.1 a a4]; exact a2, a3, Nat.lt_of_lt_of_le a4 hx.1, a5, MoP_e hx a4 h0 (by rw [a2]; exact ht) a6⟩
theorem ImP_e {img : Nat → Option (KC × ZT)} (hF : owF ow h) (hx : extO ow h ow' h' T) (h0 : ¬ 0 ∈ T) (ht : ¬ 10 ∈ T) (hP : ImP kc ow h img) : ImP kc ow' h' img := by
  obtain ⟨f, i1, i2, i3, i4⟩ := hP
  have h90 := hF.1
  exact ⟨f, by rw [hx.2.2 66 (by omega) (by rw [(tg_64 hF).2.2.1]; exact ht)]; exact i1, ImO_e hx h0 ht i2, ImO_e hx h0 ht i3, i4⟩
theorem PaP_e {c : KC} {past : List ZT} (hF : owF ow h) (hx : extO ow h ow' h' T) (ht : ¬ 16 ∈ T) (hP : PaP h c past) : PaP h' c past := by
  obtain ⟨f, p1, p2⟩ := hP
  have h90 := hF.1
  exact ⟨f, by rw [hx.2.2 67 (by omega) (by rw [(tg_64 hF).2.2.2.1]; exact ht)]; exact p1, p2⟩
theorem TrP_e {t : TT} (hF : owF ow h) (hx : extO ow h ow' h' T) (ht : ¬ 12 ∈ T) (hP : TrP h t) : TrP h' t := by
  obtain ⟨fn, fs, fo, p1, p2, p3, p4⟩ := hP
  have h90 := hF.1
  obtain ⟨-, -, -, -, t68, t69, t70, -⟩ := tg_64 hF
  exact ⟨fn, fs, fo, by rw [hx.2.2 68 (by omega) (by rw [t68]; exact ht)]; exact p1, by rw [hx.2.2 69 (by omega) (by rw [t69]; exact ht)]; exact p2, by rw [hx.2.2 70 (by omega) (by rw [t70]; exact ht)]; exact p3, p4⟩
theorem TkP_e {b : List Int} (hF : owF ow h) (hx : extO ow h ow' h' T) (ht : ¬ 13 ∈ T) (hP : TkP h b) : TkP h' b := by
  obtain ⟨i, f, p1, p2, p3⟩ := hP
  have h90 := hF.1
  obtain ⟨-, -, -, -, -, -, -, -, t11, t12⟩ := tg_64 hF
  exact ⟨i, f, by rw [hx.2.2 11 (by omega) (by rw [t11]; exact ht)]; exact p1, by rw [hx.2.2 12 (by omega) (by rw [t12]; exact ht)]; exact p2, p3⟩
theorem RdP_e (hF : owF ow h) (hx : extO ow h ow' h' T) (ht : ¬ 14 ∈ T) (hP : RdP h) : RdP h' := by
  obtain ⟨i, f14, f15, f16, f17, f18, f19, p1, p2, p3, p4, p5, p6, p7⟩ := hP
  have h90 := hF.1
  have e := fun k (k1 : 13 ≤ k) (k2 : k ≤ 19) => hx.2.2 k (by omega) (by rw [tg_rd hF k1 k2]; exact ht)
  exact ⟨i, f14, f15, f16, f17, f18, f19, by rw [e 13 (by omega) (by omega)]; exact p1, by rw [e 14 (by omega) (by omega)]; exact p2, by rw [e 15 (by omega) (by omega)]; exact p3, by rw [e 16 (by omega) (by omega)]; exact p4, by rw [e 17 (by omega) (by omega)]; exact p5, by rw [e 18 (by omega) (by omega)]; exact p6, by rw [e 19 (by omega) (by omega)]; exact p7⟩
theorem StP_e {M : MS} (hF : owF ow h) (hx : extO ow h ow' h' T) (ht : ∀ t, t ∈ [0, 8, 9, 10, 11, 12, 13, 14, 16] → ¬ t ∈ T) (hP : StP kc ow h M) : StP kc ow' h' M := by
  obtain ⟨p1, ⟨ca, p2, p3⟩, ⟨i, p, p4⟩, p5, p6, p7, p8, p9⟩ := hP
  have h90 := hF.1
  obtain ⟨t64, t65, -⟩ := tg_64 hF
  exact ⟨BkO_e hF hx (ht 11 (by decide)) p1, ⟨ca, p2, MoP_e hx (by omega) (ht 0 (by decide)) (by rw [t64]; exact ht 8 (by decide)) p3⟩, ⟨i, p, by rw [hx.2.2 65 (by omega) (by rw [t65]; exact ht 9 (by decide))]; exact p4⟩, ImP_e hF hx (ht 0 (by decide)) (ht 10 (by decide)) p5, PaP_e hF hx (ht 16 (by decide)) p6, TrP_e hF hx (ht 12 (by decide)) p7, TkP_e hF hx (ht 13 (by decide)) p8, RdP_e hF hx (ht 14 (by decide)) p9⟩
end frames
theorem room_up {h : PH} {S0 k nd nc nk nr nb : Nat} (hR : roomI h S0 k nd nc nk nr nb) : roomI h S0 (k + 1) nd nc nk nr nb := by
  unfold roomI at *; omega

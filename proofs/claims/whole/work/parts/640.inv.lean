/-! THE CLASS: owners of cells, what changes -/
def tgF (k : Nat) : Nat := if k < 10 then 0 else if k = 10 then 11 else if k < 13 then 13 else if k < 20 then 14 else if k < 27 then 0 else if k < 34 then 1 else if k < 38 then 2 else if k < 41 then 3 else if k < 43 then 4 else if k < 45 then 17 else if k < 48 then 5 else if k = 48 then 18 else if k = 49 then 0 else if k < 59 then 20 else if k < 61 then 6 else if k < 64 then 7 else if k = 64 then 8 else if k = 65 then 9 else if k = 66 then 10 else if k = 67 then 16 else if k < 71 then 12 else 15
def owF (ow : Nat → Nat) (h : PH) : Prop := 90 ≤ h.1 ∧ ∀ k, k < 90 → ow k = tgF k
def chg (ow : Nat → Nat) (T : List Nat) (h h' : PH) : Prop := h'.1 = h.1 ∧ h'.2.1 = h.2.1 ∧ ∀ k, ¬ ow k ∈ T → hp h' k = hp h k
theorem chg_r {ow : Nat → Nat} {T : List Nat} {h : PH} : chg ow T h h := ⟨rfl, rfl, fun _ _ => rfl⟩
theorem chg_t {ow : Nat → Nat} {T : List Nat} {h h1 h2 : PH} (a : chg ow T h h1) (b : chg ow T h1 h2) : chg ow T h h2 := ⟨by rw [b.1, a.1], by rw [b.2.1, a.2.1], fun k hk => by rw [b.2.2 k hk, a.2.2 k hk]⟩
theorem chg_w {ow : Nat → Nat} {T U : List Nat} {h h' : PH} (a : chg ow T h h') (hs : ∀ t, t ∈ T → t ∈ U) : chg ow U h h' := ⟨a.1, a.2.1, fun k hk => a.2.2 k (fun z => hk (hs _ z))⟩
theorem chg_up {ow : Nat → Nat} {T : List Nat} {h : PH} {a : Nat} {c : PC} {t : Nat} (ha : ow a = t) (ht : t ∈ T) : chg ow T h (hup h a c) := ⟨rfl, rfl, fun k hk => hp_upn (fun e => hk (by rw [e, ha]; exact ht))⟩
theorem chg_at {ow : Nat → Nat} {T : List Nat} {h h' : PH} {k t : Nat} (a : chg ow T h h') (hk : ow k = t) (ht : ¬ t ∈ T) : hp h' k = hp h k := a.2.2 k (by rw [hk]; exact ht)
theorem chg_F {ow : Nat → Nat} {T : List Nat} {h h' : PH} (a : chg ow T h h') (hF : owF ow h) : owF ow h' := ⟨by rw [a.1]; exact hF.1, hF.2⟩
def KCty (ow : Nat → Nat) (h : PH) (a : Nat) (c : KC) : Prop := CtyAt h a c ∧ okC c ∧ (∀ j, j ≤ 6 → ow (a + j) = 0) ∧ 10 ≤ a ∧ a + 6 < h.1
theorem KCty_c {ow : Nat → Nat} {T : List Nat} {h h' : PH} {a : Nat} {c : KC} (hc : chg ow T h h') (ht : ¬ 0 ∈ T) (hC : KCty ow h a c) : KCty ow h' a c := by
  refine ⟨CtyAt_frame (fun k k1 k2 => ?_) hC.1, hC.2.1, hC.2.2.1, hC.2.2.2.1, by rw [hc.1]; exact hC.2.2.2.2⟩
  refine chg_at hc (t := 0) ?_ ht
  have := hC.2.2.1 (k - a) (by omega)
  rwa [show a + (k - a) = k by omega] at this
theorem KCty_out {ow : Nat → Nat} {h : PH} {a : Nat} {c : KC} (hF : owF ow h) (hC : KCty ow h a c) : outH a := by
  unfold outH
  by_cases q : a + 6 < 27
  · exact Or.inl q
  · right
    by_cases w : a ≤ 33
    · have h1 : ∃ j, j ≤ 6 ∧ 27 ≤ a + j ∧ a + j ≤ 33 := by
        by_cases z : 27 ≤ a
        · exact ⟨0, by omega, by omega, by omega⟩
        · exact ⟨27 - a, by omega, by omega, by omega⟩
      obtain ⟨j, j1, j2, j3⟩ := h1
      have e1 := hC.2.2.1 j j1
      have e2 := hF.2 (a + j) (by omega)
      rw [e1] at e2
      unfold tgF at e2
      rw [if_neg (by omega), if_neg (by omega), if_neg (by omega), if_neg (by omega), if_neg (by omega), if_pos (by omega)] at e2
      omega
    · omega
theorem KCty_sz {ow : Nat → Nat} {h : PH} {a : Nat} {c : KC} (hC : KCty ow h a c) : ∃ x4 x5 x6 x7 x8 x9 x10 x11 x14 x15 x17, hp h a = oC 2 [vi (kP c), vi (kN c), vi (kLines c), vi (kSky c), x4, x5, x6, x7, x8, x9, x10, x11, vi ((2 * kN c : Nat) : Int), vi (kPw c), x14, x15, vi (szC c), x17] := by
  obtain ⟨tf, tt, mf, mt, n, fh, fw, fa, fc, fg, fp, hA, -⟩ := hC.1
  exact ⟨_, _, _, _, _, _, _, _, _, _, _, hA⟩
/-- the hours, of a county at ca, by a weather -/
def HoP (ow : Nat → Nat) (h : PH) (ca : Nat) (c : KC) (sky e : Nat) : Prop := ∃ (i : Nat → Int) (A : Nat → Int → Int), hp h 27 = hoO i (vr ca) ∧ hp h 28 = aI 0 2400 (A 28) ∧ hp h 29 = aI 0 6000 (A 29) ∧ hp h 30 = aI 0 7 (A 30) ∧ hp h 31 = aI 0 64 (A 31) ∧ hp h 32 = aI 0 16 (A 32) ∧ hp h 33 = aI 0 16 (A 33) ∧ hoOK c sky e i A ∧ KCty ow h ca c
theorem tg_ho {ow : Nat → Nat} {h : PH} (hF : owF ow h) {k : Nat} (h1 : 27 ≤ k) (h2 : k ≤ 33) : ow k = 1 := by
  rw [hF.2 k (by omega)]
  unfold tgF
  rw [if_neg (by omega), if_neg (by omega), if_neg (by omega), if_neg (by omega), if_neg (by omega), if_pos (by omega)]
theorem HoP_c {ow : Nat → Nat} {T : List Nat} {h h' : PH} {ca : Nat} {c : KC} {sky e : Nat} (hF : owF ow h) (hc : chg ow T h h') (h0 : ¬ 0 ∈ T) (h1 : ¬ 1 ∈ T) (hH : HoP ow h ca c sky e) : HoP ow h' ca c sky e := by
  obtain ⟨i, A, a1, a2, a3, a4, a5, a6, a7, a8, a9⟩ := hH
  have f := fun k (k1 : 27 ≤ k) (k2 : k ≤ 33) => chg_at hc (tg_ho hF k1 k2) h1
  exact ⟨i, A, by rw [f 27 (by omega) (by omega)]; exact a1, by rw [f 28 (by omega) (by omega)]; exact a2, by rw [f 29 (by omega) (by omega)]; exact a3, by rw [f 30 (by omega) (by omega)]; exact a4, by rw [f 31 (by omega) (by omega)]; exact a5, by rw [f 32 (by omega) (by omega)]; exact a6, by rw [f 33 (by omega) (by omega)]; exact a7, a8, KCty_c hc h0 a9⟩
theorem ho_chg {ow : Nat → Nat} {h : PH} {ca : Nat} {i : Nat → Int} {A : Nat → Int → Int} (hF : owF ow h) : chg ow [1] h (hoH h ca i A) := by
  refine ⟨rfl, rfl, fun k hk => ho_out ?_⟩
  by_cases q : k < 27 ∨ 33 < k
  · exact q
  · exact absurd (by rw [tg_ho hF (by omega) (by omega)]; decide) hk
theorem HoP_i {ow : Nat → Nat} {h : PH} {ca : Nat} {c : KC} {sky e : Nat} {i : Nat → Int} {A : Nat → Int → Int} (hF : owF ow h) (hK : KCty ow h ca c) (hI : hoOK c sky e i A) : HoP ow (hoH h ca i A) ca c sky e := ⟨i, A, ho_g27, ho_g28, ho_g29, ho_g30, ho_g31, ho_g32, ho_g33, hI, KCty_c (ho_chg hF) (by decide) hK⟩
/-- what hours lie spread -/
def spr (h : PH) (ca : Nat) (c : KC) (L : List (Nat × ST)) : Prop := ∃ (i : Nat → Int) (f g : Int → Int), hp h 27 = hoO i (vr ca) ∧ i 9 = (L.length : Int) ∧ hp h 32 = aI 0 16 f ∧ hp h 33 = aI 0 16 g ∧ ∀ (j : Nat) x, L[j]? = some x → f j = x.1 ∧ g j = encC c x.2
theorem nx_len {c : KC} {sky : Nat} {s : ST} (hO : okC c) (hs : okS c s) : (nx c sky s).length ≤ 15 := nxTo_len hO hs (by omega)
theorem nx_deed {c : KC} {sky : Nat} {s : ST} {x : Nat × ST} (hx : x ∈ nx c sky s) : x.1 < 256 := by
  obtain ⟨m, h1, -, rfl⟩ := nx_mem.mp hx
  show deedM m < 256
  unfold deedM
  split <;> (try split) <;> omega
theorem spr_c {ow : Nat → Nat} {T : List Nat} {h h' : PH} {ca : Nat} {c : KC} {L : List (Nat × ST)} (hF : owF ow h) (hc : chg ow T h h') (h1 : ¬ 1 ∈ T) (hs : spr h ca c L) : spr h' ca c L := by
  obtain ⟨i, f, g, a1, a2, a3, a4, a5⟩ := hs
  have e := fun k (k1 : 27 ≤ k) (k2 : k ≤ 33) => chg_at hc (tg_ho hF k1 k2) h1
  exact ⟨i, f, g, by rw [e 27 (by omega) (by omega)]; exact a1, a2, by rw [e 32 (by omega) (by omega)]; exact a3, by rw [e 33 (by omega) (by omega)]; exact a4, a5⟩
theorem H_spread {ow : Nat → Nat} {h : PH} {ca : Nat} {c : KC} {sky e : Nat} {s : ST} (hF : owF ow h) (hH : HoP ow h ca c sky e) (hs : okS c s) :
    ∃ h', chg ow [1] h h' ∧ HoP ow h' ca c sky e ∧ spr h' ca c (nx c sky s) ∧ ∀ d Q, WP (d + 8) 40 0 [some (vr 27), some (vi (encC c s)), none, none, none, none, none, none, none, none, none, none, none] [] h Q = Q none h' := by
  obtain ⟨i, A, a1, a2, a3, a4, a5, a6, a7, a8, a9⟩ := hH
  have hid : hoH h ca i A = h := ho_id a1 a2 a3 a4 a5 a6 a7
  obtain ⟨B, b1, b2, b3⟩ := h_spread (i := i) (A := A) a9.2.1 (KCty_out hF a9) a9.1 a8 hs
  rw [hid] at b3
  refine ⟨hoH h ca (iup i 9 ((nx c sky s).length : Nat)) B, ho_chg hF, HoP_i hF a9 (hoOK_i b1), ⟨_, B 32, B 33, ho_g27, iup_s, ho_g32, ho_g33, b2⟩, b3⟩
theorem H_after {ow : Nat → Nat} {h : PH} {ca : Nat} {c : KC} {sky e : Nat} {s : ST} {x : Int} (hF : owF ow h) (hH : HoP ow h ca c sky e) (hs : okS c s) (hx : i64 x) :
    ∃ h', chg ow [1] h h' ∧ HoP ow h' ca c sky e ∧ ∀ d Q, WP (d + 9) 39 0 [some (vr 27), some (vi (encC c s)), some (vl x), none, none] [] h Q = Q (some (vi (encO c (afterO c sky s x)))) h' := by
  obtain ⟨i, A, a1, a2, a3, a4, a5, a6, a7, a8, a9⟩ := hH
  have hid : hoH h ca i A = h := ho_id a1 a2 a3 a4 a5 a6 a7
  obtain ⟨j, B, b1, b3⟩ := h_after (i := i) (A := A) a9.2.1 (KCty_out hF a9) a9.1 a8 hs hx.1 hx.2
  rw [hid] at b3
  exact ⟨hoH h ca j B, ho_chg hF, HoP_i hF a9 b1, b3⟩
theorem H_whyNot {ow : Nat → Nat} {h : PH} {ca : Nat} {c : KC} {sky e : Nat} {s : ST} {x : Int} (hF : owF ow h) (hH : HoP ow h ca c sky e) (hs : okS c s) (hx : i64 x) :
    ∃ h', chg ow [1] h h' ∧ HoP ow h' ca c sky e ∧ ∀ d Q, WP (d + 9) 38 0 [some (vr 27), some (vi (encC c s)), some (vl x), none, none, none, none, none] [] h Q = Q (some (vi (whyD c sky s x))) h' := by
  obtain ⟨i, A, a1, a2, a3, a4, a5, a6, a7, a8, a9⟩ := hH
  have hid : hoH h ca i A = h := ho_id a1 a2 a3 a4 a5 a6 a7
  obtain ⟨B, b1, b3⟩ := h_whyNot (i := i) (A := A) a9.2.1 (KCty_out hF a9) a9.1 a8 hs hx.1 hx.2
  rw [hid] at b3
  exact ⟨hoH h ca i B, ho_chg hF, HoP_i hF a9 b1, b3⟩
theorem H_tells {d : Nat} {ow : Nat → Nat} {h : PH} {ca : Nat} {c : KC} {sky e : Nat} {x : Int} {Q : PQ} (hF : owF ow h) (hH : HoP ow h ca c sky e) (hx : i64 x) :
    WP d 37 0 [some (vr 27), some (vl x), none] [] h Q = Q (some (vi (if (moveD c x).isSome then 1 else 0))) h := by
  obtain ⟨i, A, a1, a2, a3, a4, a5, a6, a7, a8, a9⟩ := hH
  have hid : hoH h ca i A = h := ho_id a1 a2 a3 a4 a5 a6 a7
  have := h_tells (d := d) (i := i) (A := A) (Q := Q) a9.2.1 (KCty_out hF a9) a9.1 hx.1 hx.2
  rwa [hid] at this
/-- another county or weather: the answers kept are of an elder edition then -/
theorem H_use {ow : Nat → Nat} {h : PH} {ca cb : Nat} {c c' : KC} {sky sky' e : Nat} (hF : owF ow h) (hH : HoP ow h ca c sky e) (hK : KCty ow h cb c') (hcc : ca = cb → c = c') (hs : sky' < 10) (he : e < 1000000) :
    ∃ e' h', e' ≤ e + 1 ∧ chg ow [1] h h' ∧ HoP ow h' cb c' sky' e' ∧ ∀ d Q, WP d 36 0 [some (vr 27), some (vr cb), some (vi (sky' : Nat))] [] h Q = Q none h' := by
  obtain ⟨i, A, a1, a2, a3, a4, a5, a6, a7, a8, a9⟩ := hH
  have hid : hoH h ca i A = h := ho_id a1 a2 a3 a4 a5 a6 a7
  obtain ⟨e', j, b1, b2, b3⟩ := h_use (h := h) a8 a9.2.2.2.1 hK.2.2.2.1 hcc hs he
  rw [hid] at b3
  exact ⟨e', hoH h cb j A, b1, ho_chg hF, HoP_i hF hK b2, b3⟩

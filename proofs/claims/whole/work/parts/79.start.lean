/-! THE LAW'S START: the pure theorem of the law gives whole_start's walk -/
def h0 (L : Nat) (xs : Nat → Int32) : PH := (10, 0, fun k => if k < 10 then roC L xs k else oC 99 [])
theorem arr_of {args : Array Value} {s : State} {t : FieldType} (h : (Cond.arrayClass t).before args s = true) (ho : ∀ C, t ≠ .object C) : ∃ c : ClassId, ArrOfT s c t ∧ va_RA s c t := by
  obtain ⟨c, k, comp, h1, h2, h3⟩ := Cond.arrayClass_spec h
  refine ⟨c, fun N z => ⟨(fun q hq => by cases hq), k, h2, comp, h3⟩, ?_⟩
  cases t <;> first | exact h1 | exact absurd rfl (ho _)
theorem arr_ofO {s : State} {C : String} (h : va_AO C s) : ∃ c : ClassId, ArrOfT s c (.object C) ∧ va_RA s c (.object C) := by
  obtain ⟨comp, c, k, h1, -, h3, h4, h5⟩ := Cond.arrayOver_spec h
  exact ⟨c, fun N z => ⟨(fun q hq => by cases hq), k, h3, comp, h4⟩, k, comp, h3, h4, h1, h5⟩
theorem arr_ofA {s : State} {t : FieldType} (h : va_AOA t s) : ∃ c : ClassId, ArrOfT s c (.array t) ∧ va_RA s c (.array t) := by
  obtain ⟨comp, c, k, h1, -, h3, h4, h5⟩ := arrayOverA_spec h
  exact ⟨c, fun N z => ⟨(fun q hq => by cases hq), k, h3, comp, h4⟩, h5⟩
theorem str_of {args : Array Value} {s : State} {tm : Term} {len : Nat} {byt : Nat → Int32} {A : Nat → Prop} (hN : len < 2 ^ 31) (hex : (Cond.exactly tm "java/lang/String").before args s = true) (hco : (Cond.eq (.field tm "java/lang/String" "coder" "B") (.int 0)).before args s = true)
    (har : (Cond.arrayOf (.field tm "java/lang/String" "value" "[B") .byte).before args s = true) (hle : (Cond.eq (.length (.field tm "java/lang/String" "value" "[B")) (.int (Int32.ofNat len))).before args s = true)
    (hel : ∀ j : Nat, j < len → (Cond.eq (.elem (.field tm "java/lang/String" "value" "[B") (.int (Int32.ofNat j))) (.int (byt j))).before args s = true) (hA : ∀ a : Nat, a < s.heap.size → ¬ A a) :
    ∃ a t : Nat, tm.eval args s none [] s = some (.ref a) ∧ va_O "java/lang/String" a A s s.heap ∧ va_OF "java/lang/String" "coder" "B" (.int 0) a A s s.heap ∧ va_OF "java/lang/String" "value" "[B" (.ref t) a A s s.heap ∧ va_T .byte t len (fun j => .int (byt j)) A s s.heap := by
  obtain ⟨a, c, cA, kA, q1, q2, q3, q4, q5, q6, -⟩ := Cond.exactly_spec (args := args) (first := s) (o := none) (s := s) (idx := []) (t := tm) (cls := "java/lang/String") hex
  obtain ⟨t, ht, hT⟩ := va_Tof (f := fun j => .int (byt j)) (A := A) hN har (va_eqt hle) (fun j hj => va_eqt (hel j hj)) hA
  exact ⟨a, t, q1, ⟨cA, q3, q5, by rw [q6]; exact q2, hA a (Array.getElem?_eq_some_iff.mp q3).1⟩, vk_OFof q1 (va_eqt hco) hA, vk_OFof q1 ht hA, hT⟩
def sOwn (k : Nat) : String := if k ≤ 2 then "BearerKin$Tokens" else "BearerKinModel"
def sIdx (k : Nat) : Nat := if k = 1 then 71 else if k = 2 then 60 else if k = 3 then 90 else 128
def sTm (k : Nat) : Term := .string (sOwn k) (sIdx k)
def FL : List Cond := flatC (Jvm.Cond.and given_1 narrow_1)
def pAt (p : Nat) (w : Cond) : Bool := decide (FL[p]? = some w)
theorem pAt_mem {p : Nat} {w : Cond} (h : pAt p w = true) : w ∈ flatC (Jvm.Cond.and given_1 narrow_1) := List.mem_of_getElem? (of_decide_eq_true h)
def chkN (f : Nat → Nat → Bool) : Nat → List Nat → Bool
  | _, [] => true
  | j, p :: ps => f j p && chkN f (j + 1) ps
theorem chkN_at {f : Nat → Nat → Bool} : ∀ (ps : List Nat) (j0 : Nat), chkN f j0 ps = true → ∀ j, j < ps.length → ∃ p, f (j0 + j) p = true
  | [], _, _, j, h => absurd h (by simp)
  | p :: ps, j0, h, 0, _ => by simp only [chkN, Bool.and_eq_true] at h; exact ⟨p, h.1⟩
  | p :: ps, j0, h, j + 1, hj => by
    simp only [chkN, Bool.and_eq_true] at h
    have := chkN_at ps (j0 + 1) h.2 j (by simpa using hj)
    rwa [show j0 + 1 + j = j0 + (j + 1) by omega] at this
set_option maxRecDepth 100000 in
theorem sp_1 : pAt 9 (.exactly (sTm 1) "java/lang/String") = true ∧ pAt 10 (.eq (.field (sTm 1) "java/lang/String" "coder" "B") (.int 0)) = true ∧ pAt 11 (.arrayOf (.field (sTm 1) "java/lang/String" "value" "[B") .byte) = true ∧ pAt 12 (.eq (.length (.field (sTm 1) "java/lang/String" "value" "[B")) (.int (Int32.ofNat (sLen 1)))) = true := by decide +kernel
set_option maxRecDepth 100000 in
theorem se_1_0 : chkN (fun j p => pAt p (.eq (.elem (.field (sTm 1) "java/lang/String" "value" "[B") (.int (Int32.ofNat j))) (.int (sByt 1 j)))) 0 [13, 14, 15, 16, 17, 18, 19, 20, 21, 22, 23, 24, 25, 26, 27, 28, 29, 30, 31, 32, 33, 34, 35, 36, 37, 38, 39, 40, 41, 42] = true := by decide +kernel
set_option maxRecDepth 100000 in
theorem se_1_30 : chkN (fun j p => pAt p (.eq (.elem (.field (sTm 1) "java/lang/String" "value" "[B") (.int (Int32.ofNat j))) (.int (sByt 1 j)))) 30 [43, 44, 45, 46, 47, 48, 49, 50, 51, 52, 53, 54, 55, 56, 57, 58, 59, 60, 61, 62, 63, 64, 65, 66, 67, 68, 69, 70, 71, 72] = true := by decide +kernel
set_option maxRecDepth 100000 in
theorem se_1_60 : chkN (fun j p => pAt p (.eq (.elem (.field (sTm 1) "java/lang/String" "value" "[B") (.int (Int32.ofNat j))) (.int (sByt 1 j)))) 60 [73, 74, 75, 76, 77, 78, 79, 80, 81, 82, 83, 84, 85, 86, 87, 88, 89, 90, 91, 92, 93, 94, 95, 96, 97, 98, 99, 100, 101, 102] = true := by decide +kernel
set_option maxRecDepth 100000 in
theorem se_1_90 : chkN (fun j p => pAt p (.eq (.elem (.field (sTm 1) "java/lang/String" "value" "[B") (.int (Int32.ofNat j))) (.int (sByt 1 j)))) 90 [103, 104, 105, 106, 107, 108, 109, 110, 111, 112, 113, 114, 115, 116, 117, 118] = true := by decide +kernel
theorem sl_1 : sLen 1 = 106 := by decide +kernel
theorem sm_1 : ∀ j, j < sLen 1 → Cond.eq (.elem (.field (sTm 1) "java/lang/String" "value" "[B") (.int (Int32.ofNat j))) (.int (sByt 1 j)) ∈ flatC (Jvm.Cond.and given_1 narrow_1) := by
  intro j hj
  rw [sl_1] at hj
  rcases Nat.lt_or_ge j 30 with z | z
  · obtain ⟨p, hp⟩ := chkN_at _ _ se_1_0 (j - 0) (by show _ < 30; omega)
    rw [show 0 + (j - 0) = j by omega] at hp
    exact pAt_mem hp
  rcases Nat.lt_or_ge j 60 with z | z
  · obtain ⟨p, hp⟩ := chkN_at _ _ se_1_30 (j - 30) (by show _ < 30; omega)
    rw [show 30 + (j - 30) = j by omega] at hp
    exact pAt_mem hp
  rcases Nat.lt_or_ge j 90 with z | z
  · obtain ⟨p, hp⟩ := chkN_at _ _ se_1_60 (j - 60) (by show _ < 30; omega)
    rw [show 60 + (j - 60) = j by omega] at hp
    exact pAt_mem hp
  obtain ⟨p, hp⟩ := chkN_at _ _ se_1_90 (j - 90) (by show _ < 16; omega)
  rw [show 90 + (j - 90) = j by omega] at hp
  exact pAt_mem hp
set_option maxRecDepth 100000 in
theorem sp_2 : pAt 119 (.exactly (sTm 2) "java/lang/String") = true ∧ pAt 120 (.eq (.field (sTm 2) "java/lang/String" "coder" "B") (.int 0)) = true ∧ pAt 121 (.arrayOf (.field (sTm 2) "java/lang/String" "value" "[B") .byte) = true ∧ pAt 122 (.eq (.length (.field (sTm 2) "java/lang/String" "value" "[B")) (.int (Int32.ofNat (sLen 2)))) = true := by decide +kernel
set_option maxRecDepth 100000 in
theorem se_2_0 : chkN (fun j p => pAt p (.eq (.elem (.field (sTm 2) "java/lang/String" "value" "[B") (.int (Int32.ofNat j))) (.int (sByt 2 j)))) 0 [123, 124, 125, 126, 127, 128, 129, 130, 131, 132, 133, 134] = true := by decide +kernel
theorem sl_2 : sLen 2 = 12 := by decide +kernel
theorem sm_2 : ∀ j, j < sLen 2 → Cond.eq (.elem (.field (sTm 2) "java/lang/String" "value" "[B") (.int (Int32.ofNat j))) (.int (sByt 2 j)) ∈ flatC (Jvm.Cond.and given_1 narrow_1) := by
  intro j hj
  rw [sl_2] at hj
  obtain ⟨p, hp⟩ := chkN_at _ _ se_2_0 (j - 0) (by show _ < 12; omega)
  rw [show 0 + (j - 0) = j by omega] at hp
  exact pAt_mem hp
set_option maxRecDepth 100000 in
theorem sp_3 : pAt 136 (.exactly (sTm 3) "java/lang/String") = true ∧ pAt 137 (.eq (.field (sTm 3) "java/lang/String" "coder" "B") (.int 0)) = true ∧ pAt 138 (.arrayOf (.field (sTm 3) "java/lang/String" "value" "[B") .byte) = true ∧ pAt 139 (.eq (.length (.field (sTm 3) "java/lang/String" "value" "[B")) (.int (Int32.ofNat (sLen 3)))) = true := by decide +kernel
set_option maxRecDepth 100000 in
theorem se_3_0 : chkN (fun j p => pAt p (.eq (.elem (.field (sTm 3) "java/lang/String" "value" "[B") (.int (Int32.ofNat j))) (.int (sByt 3 j)))) 0 [140, 141, 142, 143, 144, 145, 146, 147, 148, 149, 150, 151, 152, 153, 154, 155, 156, 157, 158, 159, 160, 161, 162, 163, 164, 165, 166, 167, 168, 169] = true := by decide +kernel
set_option maxRecDepth 100000 in
theorem se_3_30 : chkN (fun j p => pAt p (.eq (.elem (.field (sTm 3) "java/lang/String" "value" "[B") (.int (Int32.ofNat j))) (.int (sByt 3 j)))) 30 [170, 171, 172, 173, 174, 175, 176, 177, 178, 179, 180, 181, 182, 183, 184, 185, 186, 187, 188, 189, 190, 191, 192, 193, 194, 195, 196, 197, 198, 199] = true := by decide +kernel
set_option maxRecDepth 100000 in
theorem se_3_60 : chkN (fun j p => pAt p (.eq (.elem (.field (sTm 3) "java/lang/String" "value" "[B") (.int (Int32.ofNat j))) (.int (sByt 3 j)))) 60 [200, 201, 202, 203, 204, 205, 206, 207, 208, 209, 210, 211, 212, 213, 214, 215, 216, 217, 218, 219, 220, 221, 222, 223, 224, 225, 226, 227, 228, 229] = true := by decide +kernel
set_option maxRecDepth 100000 in
theorem se_3_90 : chkN (fun j p => pAt p (.eq (.elem (.field (sTm 3) "java/lang/String" "value" "[B") (.int (Int32.ofNat j))) (.int (sByt 3 j)))) 90 [230, 231, 232, 233, 234, 235, 236, 237, 238, 239, 240, 241, 242, 243, 244, 245, 246, 247] = true := by decide +kernel
theorem sl_3 : sLen 3 = 108 := by decide +kernel
theorem sm_3 : ∀ j, j < sLen 3 → Cond.eq (.elem (.field (sTm 3) "java/lang/String" "value" "[B") (.int (Int32.ofNat j))) (.int (sByt 3 j)) ∈ flatC (Jvm.Cond.and given_1 narrow_1) := by
  intro j hj
  rw [sl_3] at hj
  rcases Nat.lt_or_ge j 30 with z | z
  · obtain ⟨p, hp⟩ := chkN_at _ _ se_3_0 (j - 0) (by show _ < 30; omega)
    rw [show 0 + (j - 0) = j by omega] at hp
    exact pAt_mem hp
  rcases Nat.lt_or_ge j 60 with z | z
  · obtain ⟨p, hp⟩ := chkN_at _ _ se_3_30 (j - 30) (by show _ < 30; omega)
    rw [show 30 + (j - 30) = j by omega] at hp
    exact pAt_mem hp
  rcases Nat.lt_or_ge j 90 with z | z
  · obtain ⟨p, hp⟩ := chkN_at _ _ se_3_60 (j - 60) (by show _ < 30; omega)
    rw [show 60 + (j - 60) = j by omega] at hp
    exact pAt_mem hp
  obtain ⟨p, hp⟩ := chkN_at _ _ se_3_90 (j - 90) (by show _ < 18; omega)
  rw [show 90 + (j - 90) = j by omega] at hp
  exact pAt_mem hp
set_option maxRecDepth 100000 in
theorem sp_4 : pAt 250 (.exactly (sTm 4) "java/lang/String") = true ∧ pAt 251 (.eq (.field (sTm 4) "java/lang/String" "coder" "B") (.int 0)) = true ∧ pAt 252 (.arrayOf (.field (sTm 4) "java/lang/String" "value" "[B") .byte) = true ∧ pAt 253 (.eq (.length (.field (sTm 4) "java/lang/String" "value" "[B")) (.int (Int32.ofNat (sLen 4)))) = true := by decide +kernel
set_option maxRecDepth 100000 in
theorem se_4_0 : chkN (fun j p => pAt p (.eq (.elem (.field (sTm 4) "java/lang/String" "value" "[B") (.int (Int32.ofNat j))) (.int (sByt 4 j)))) 0 [254, 255, 256, 257, 258, 259, 260, 261, 262, 263, 264, 265] = true := by decide +kernel
theorem sl_4 : sLen 4 = 12 := by decide +kernel
theorem sm_4 : ∀ j, j < sLen 4 → Cond.eq (.elem (.field (sTm 4) "java/lang/String" "value" "[B") (.int (Int32.ofNat j))) (.int (sByt 4 j)) ∈ flatC (Jvm.Cond.and given_1 narrow_1) := by
  intro j hj
  rw [sl_4] at hj
  obtain ⟨p, hp⟩ := chkN_at _ _ se_4_0 (j - 0) (by show _ < 12; omega)
  rw [show 0 + (j - 0) = j by omega] at hp
  exact pAt_mem hp
theorem s_prem : ∀ k, k < 4 → (Cond.exactly (sTm (k + 1)) "java/lang/String" ∈ flatC (Jvm.Cond.and given_1 narrow_1) ∧ Cond.eq (.field (sTm (k + 1)) "java/lang/String" "coder" "B") (.int 0) ∈ flatC (Jvm.Cond.and given_1 narrow_1) ∧ Cond.arrayOf (.field (sTm (k + 1)) "java/lang/String" "value" "[B") .byte ∈ flatC (Jvm.Cond.and given_1 narrow_1) ∧ Cond.eq (.length (.field (sTm (k + 1)) "java/lang/String" "value" "[B")) (.int (Int32.ofNat (sLen (k + 1)))) ∈ flatC (Jvm.Cond.and given_1 narrow_1)) ∧ ∀ j, j < sLen (k + 1) → Cond.eq (.elem (.field (sTm (k + 1)) "java/lang/String" "value" "[B") (.int (Int32.ofNat j))) (.int (sByt (k + 1) j)) ∈ flatC (Jvm.Cond.and given_1 narrow_1) := by
  intro k hk
  match k, hk with
  | 0, _ => exact ⟨⟨pAt_mem sp_1.1, pAt_mem sp_1.2.1, pAt_mem sp_1.2.2.1, pAt_mem sp_1.2.2.2⟩, sm_1⟩
  | 1, _ => exact ⟨⟨pAt_mem sp_2.1, pAt_mem sp_2.2.1, pAt_mem sp_2.2.2.1, pAt_mem sp_2.2.2.2⟩, sm_2⟩
  | 2, _ => exact ⟨⟨pAt_mem sp_3.1, pAt_mem sp_3.2.1, pAt_mem sp_3.2.2.1, pAt_mem sp_3.2.2.2⟩, sm_3⟩
  | 3, _ => exact ⟨⟨pAt_mem sp_4.1, pAt_mem sp_4.2.1, pAt_mem sp_4.2.2.1, pAt_mem sp_4.2.2.2⟩, sm_4⟩
theorem choose2 {α β : Type} {P : Nat → α → β → Prop} (h : ∀ k, ∃ a b, P k a b) : ∃ (f : Nat → α) (g : Nat → β), ∀ k, P k (f k) (g k) := by
  have h1 : ∀ k, ∃ q : α × β, P k q.1 q.2 := fun k => by obtain ⟨a, b, z⟩ := h k; exact ⟨(a, b), z⟩
  obtain ⟨f, hf⟩ := Classical.axiomOfChoice h1
  exact ⟨fun k => (f k).1, fun k => (f k).2, hf⟩
set_option maxHeartbeats 4000000 in
set_option maxRecDepth 100000 in
theorem whole_of (pure : ∀ (L : Nat) (xs : Nat → Int32), L ≤ 3072 → ∃ (n : Nat) (h' : PH), run n 1000 330 0 [some (vr 0), none, none, none] [] (h0 L xs) = some (some (vi 1), h') ∧ h'.1 ≤ 600010 ∧ h'.2.1 ≤ 7302250)
    {p : Program} {e : Env} {s : State} {m : MethodId} {below : List Frame} {meth : Method} {c : Code} (l : Launch) {b L : Nat} {xs : Nat → Int32} (hL : L ≤ 3072) (C0 : lw_At p s m meth c b L xs) : W p l e room_1 s m #[Value.ref b] below meth c s.heap [] 0 0 (lw_Z below #[Value.ref b] s) (entryFrame m ([Value.ref b] : List Value).toArray 4) := by
  obtain ⟨hx, hb, hr, hml, hown, hts, hX, hbl, hlocks, hgv⟩ := C0
  have hTB : ∀ w ∈ TB, w.before #[Value.ref b] s = true := fun w hw => hts w (List.mem_filter.mp hw).1
  have hA : ∀ a : Nat, a < s.heap.size → ¬ (fun q : Nat => s.heap.size ≤ q) a := fun a h1 h2 => by simp only at h2; omega
  have hfl := flat_of_before _ hgv
  -- classes
  have hcls : ∀ k : Nat, ∃ (cC : ClassId) (iS : Nat → Nat), ∀ r : vw_C, clsL[k]? = some r → u_Kn s r.1 r.2.1 r.2.2 cC iS := by
    intro k
    cases hk : clsL[k]? with
    | none => exact ⟨0, fun _ => 0, fun r h => by cases h⟩
    | some r =>
      obtain ⟨cC, iS, h1⟩ := u_known hTB (lays_ok hk) (hTB _ (inst_ok hk).1)
      exact ⟨cC, iS, fun r' h => by cases h; exact h1⟩
  obtain ⟨dC, dI, hD⟩ := choose2 hcls
  -- arrays
  have hAO : va_AO "BearerKin$Moment" s := va_AO.of (hts (.arrayOver (.object "BearerKin$Moment")) (by decide +kernel))
  have hAOA : va_AOA .int s := hts (.arrayOver (.array .int)) (by decide +kernel)
  obtain ⟨c0, k0⟩ := arr_of (hTB _ w_ar_int) (fun C z => by cases z)
  obtain ⟨c1, k1⟩ := arr_of (hTB _ w_ar_byte) (fun C z => by cases z)
  obtain ⟨c2, k2⟩ := arr_of (hTB _ w_ar_boolean) (fun C z => by cases z)
  obtain ⟨c3, k3⟩ := arr_of (hTB _ w_ar_long) (fun C z => by cases z)
  obtain ⟨c4, k4⟩ := arr_ofO hAO
  obtain ⟨c5, k5⟩ := arr_ofA hAOA
  obtain ⟨aC, e0, e1, e2, e3, e4, e5⟩ : ∃ aC : Nat → ClassId, aC 0 = c0 ∧ aC 1 = c1 ∧ aC 2 = c2 ∧ aC 3 = c3 ∧ aC 4 = c4 ∧ aC 5 = c5 := ⟨fun k => match k with | 0 => c0 | 1 => c1 | 2 => c2 | 3 => c3 | 4 => c4 | _ => c5, rfl, rfl, rfl, rfl, rfl, rfl⟩
  subst e0 e1 e2 e3 e4 e5
  have hK : va_K (dC, dI) clsL (tysL aC) s := by
    refine ⟨fun k q hq => hD k q hq, fun k q hq => ?_⟩
    match k, hq with
    | 0, hq => cases hq; exact k0
    | 1, hq => cases hq; exact k1
    | 2, hq => cases hq; exact k2
    | 3, hq => cases hq; exact k3
    | 4, hq => cases hq; exact k4
    | 5, hq => cases hq; exact k5
    | k + 6, hq => simp [tysL] at hq
  -- texts
  have hstr : ∀ k, ∃ a t : Nat, k < 4 → (sTm (k + 1)).eval #[Value.ref b] s none [] s = some (.ref a) ∧ va_O "java/lang/String" a (fun q => s.heap.size ≤ q) s s.heap ∧ va_OF "java/lang/String" "coder" "B" (.int 0) a (fun q => s.heap.size ≤ q) s s.heap ∧ va_OF "java/lang/String" "value" "[B" (.ref t) a (fun q => s.heap.size ≤ q) s s.heap ∧ va_T .byte t (sLen (k + 1)) (fun j => .int (sByt (k + 1) j)) (fun q => s.heap.size ≤ q) s s.heap := by
    intro k
    by_cases hk : k < 4
    · obtain ⟨⟨p1, p2, p3, p4⟩, p5⟩ := s_prem k hk
      have hlen : sLen (k + 1) < 2 ^ 31 := by
        have : ∀ k, k < 4 → sLen (k + 1) < 2 ^ 31 := by decide +kernel
        exact this k hk
      obtain ⟨a, t, h1⟩ := str_of (byt := sByt (k + 1)) hlen (hfl _ p1) (hfl _ p2) (hfl _ p3) (hfl _ p4) (fun j hj => hfl _ (p5 j hj)) hA
      exact ⟨a, t, fun _ => h1⟩
    · exact ⟨0, 0, fun h => absurd h hk⟩
  obtain ⟨sa, sv, hst⟩ := choose2 hstr
  -- statics
  have z1 : va_Z "java/lang/String" "COMPACT_STRINGS" "Z" (.int 1) (fun q => s.heap.size ≤ q) s s.heap := va_Zof (hts (.laysStatic "java/lang/String" "COMPACT_STRINGS" "Z") (by decide +kernel)) (hts (.initialized "java/lang/String") (by decide +kernel)) (va_eqt (hfl (.eq (.static "java/lang/String" "COMPACT_STRINGS" "Z") (.int 1)) (by decide +kernel))) hA
  obtain ⟨v9, hv9, hv9r⟩ := Cond.isRef_spec (hfl (.isRef (.static "jdk/internal/util/Preconditions" "SIOOBE_FORMATTER" "Ljava/util/function/BiFunction;")) (by decide +kernel))
  obtain ⟨o9, rfl⟩ : ∃ o9 : Option Nat, v9 = va_rf o9 := by
    cases v9 with
    | null => exact ⟨none, rfl⟩
    | ref a => exact ⟨some a, rfl⟩
    | _ => cases hv9r
  have z2 : va_Z "jdk/internal/util/Preconditions" "SIOOBE_FORMATTER" "Ljava/util/function/BiFunction;" (va_rf o9) (fun q => s.heap.size ≤ q) s s.heap := va_Zof (hts (.laysStatic "jdk/internal/util/Preconditions" "SIOOBE_FORMATTER" "Ljava/util/function/BiFunction;") (by decide +kernel)) (hts (.initialized "jdk/internal/util/Preconditions") (by decide +kernel)) hv9 hA
  obtain ⟨X, hX1, hX0, hXs, hXv, hX9⟩ : ∃ X : AX, X.1 = s.heap.size ∧ X.2.1 0 = b ∧ (∀ k, k < 4 → X.2.1 (k + 1) = sa k) ∧ (∀ k, k < 4 → X.2.1 (k + 5) = sv k) ∧ X.2.2 = o9 :=
    ⟨(s.heap.size, fun k => if k = 0 then b else if k ≤ 4 then sa (k - 1) else sv (k - 5), o9), rfl, rfl, fun k hk => by dsimp only; rw [if_neg (by omega), if_pos (by omega)]; congr 1, fun k hk => by dsimp only; rw [if_neg (by omega), if_neg (by omega)]; congr 1, rfl⟩
  have hRO : RO X L xs s s.heap := by
    unfold RO
    rw [hX1, hX0, hX9]
    refine ⟨?_, ?_, z1, z2⟩
    · obtain ⟨scr, a1, a2, a3, a4, a5⟩ := hX
      refine ⟨scr, a1, a2, a3, by omega, by rw [a4], a5, ?_⟩
      show ¬ s.heap.size ≤ b
      omega
    · intro k h1 h4
      obtain ⟨-, b1, b2, b3, b4⟩ := hst (k - 1) (by omega)
      have q1 := hXs (k - 1) (by omega)
      have q2 := hXv (k - 1) (by omega)
      rw [show k - 1 + 1 = k by omega] at q1 b4
      rw [show k - 1 + 5 = k + 4 by omega] at q2
      rw [q1, q2]
      exact ⟨b1, b2, b3, b4⟩
  have hKS : KS X (dC, dI) aC s := by
    refine ⟨hK, fun k hk => ?_, va_Nw.of rfl (hts (.castable "[I" "java/lang/Cloneable") (by decide +kernel)), hAO, hAOA, ?_, ?_, ?_, ?_⟩
    · rcases hk with rfl | rfl | rfl
      · exact va_Nw.of rfl (hts (.methodLinkNest "BearerKin" 9 (nestM 9) "BearerKin") (by decide +kernel))
      · exact va_Nw.of rfl (hts (.methodLinkNest "BearerKin" 41 (nestM 41) "BearerKin") (by decide +kernel))
      · exact va_Nw.of rfl (hts (.methodLinkNest "BearerKin" 76 (nestM 76) "BearerKin") (by decide +kernel))
    · exact vk_R.of (hts (.stringRef "BearerKin$Tokens" 71 "county places height way kin at age strength bears weather tires may if then else end goes from or and not") (by decide +kernel)) (by rw [hXs 0 (by omega)]; exact (hst 0 (by omega)).1)
    · exact vk_R.of (hts (.stringRef "BearerKin$Tokens" 60 ";:+-*()[]=<>") (by decide +kernel)) (by rw [hXs 1 (by omega)]; exact (hst 1 (by omega)).1)
    · exact vk_R.of (hts (.stringRef "BearerKinModel" 90 " county places height way kin at age strength bears weather tires may if then else end goes from and or not ") (by decide +kernel)) (by rw [hXs 2 (by omega)]; exact (hst 2 (by omega)).1)
    · exact vk_R.of (hts (.stringRef "BearerKinModel" 128 ";:+-*()[]=<>") (by decide +kernel)) (by rw [hXs 3 (by omega)]; exact (hst 3 (by omega)).1)
  obtain ⟨n, h', hrun, hcell, hslot⟩ := pure L xs hL
  obtain ⟨⟨g1, g2⟩, hsem⟩ := sound _ _ _ _ _ _ _ _ _ hrun
  have hC : CXM X (dC, dI) aC L xs (yL_law, cL_law, 4, some .boolean, 20) p s m #[Value.ref b] meth c := by
    exact ⟨hx, hb, hml, hown, hTB, hr, hlocks, fun hi => absurd hi (by decide), hKS, hRO, by omega⟩
  have hH : HR X (dC, dI) aC L xs (h0 L xs) s.heap := by
    refine ⟨Nat.le_refl _, ?_, fun k q1 q2 => absurd q2 (by show ¬ k < 10; omega), fun k hk => if_pos hk, fun k hk => if_neg (by show ¬ k < 10; have : 10 ≤ k := hk; omega)⟩
    intro j q hq
    obtain ⟨hj, -⟩ := wsO_inv hq
    exact absurd hj (by show ¬ j < 10 - 10; omega)
  rw [lg_entry_eq]
  have hLR : LR X ((lg_sl ([Value.ref b] : List Value) ++ List.replicate (4 - (lg_sl ([Value.ref b] : List Value)).length) Slot.unset).toArray) [some (vr 0), none, none, none] := by
    have h1 := LR_entry (X := X) (as := [vr 0]) (n := 4) (by decide)
    have h2 : ([vr 0] : List PV).map (tr X) = [Value.ref b] := by
      rw [List.map_cons, tr_r (by omega)]
      unfold adr
      rw [if_pos (by omega), hX0]
      rfl
    rw [h2] at h1
    exact h1
  refine hsem _ m_330 rfl p l e room_1 s m _ below meth c (lw_Z below #[Value.ref b] s) X (dC, dI) aC L xs s.heap [] 0 0 _ hC (Nat.le_of_ble_eq_true rfl) (Nat.le_of_ble_eq_true rfl) hH va_S.rf hLR (by rw [hX1]; rfl) (by show 0 + h'.1 ≤ 600000 + 10; omega) (by show 0 + h'.2.1 ≤ 7302250 + 0; omega) ?_
  intro pcR H' locs' lsA' c' s' f1 f2 f3 f4 f5
  refine va_forget (fun q hq => by have := f4.2.2 q hq; omega) ?_
  refine W.widen (k := 600000) (n := 7302250) (by have : c' + 10 = 0 + h'.1 := f1; omega) (by have : s' + 0 = 0 + h'.2.1 := f2; omega) ?_
  exact lw_ret hx hb hr hlocks f5.2

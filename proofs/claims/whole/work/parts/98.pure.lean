/-! THE PURE THEOREM OF THE LAW -/
theorem str_ro {L : Nat} {xs : Nat → Int32} {a : Nat} {bs : List Int} (h1 : hp (h0 L xs) a = oC 13 [vr (a + 4), vi 0]) (h2 : hp (h0 L xs) (a + 4) = aI 1 (sLen a) (fun j => (sByt a j.toNat).toInt)) (h3 : sLen a = bs.length) (h4 : ∀ k, k < bs.length → (sByt a k).toInt = bs.getD k 0) : strE (h0 L xs) a bs := ⟨h1, _, by rw [h2, h3], fun k hk => by show (sByt a ((k : Nat) : Int).toNat).toInt = _; rw [Int.toNat_natCast]; exact h4 k hk⟩
theorem txE_0 {L : Nat} {xs : Nat → Int32} : txE (h0 L xs) := ⟨str_ro rfl rfl (by decide +kernel) (by decide +kernel), str_ro rfl rfl (by decide +kernel) (by decide +kernel), str_ro rfl rfl (by decide +kernel) (by decide +kernel), str_ro rfl rfl (by decide +kernel) (by decide +kernel)⟩
theorem pure_law (L : Nat) (xs : Nat → Int32) (hL : L ≤ 3072) : ∃ (n : Nat) (h' : PH), run n 1000 330 0 [some (vr 0), none, none, none] [] (h0 L xs) = some (some (vi 1), h') ∧ h'.1 ≤ 600010 ∧ h'.2.1 ≤ 7302250 := by
  obtain ⟨h', a1, a2, a3⟩ := law_wp (h := h0 L xs) (L := L) (f := fun j => (xs j.toNat).toInt) rfl rfl txE_0 (fun y => ⟨Int32.le_toInt _, Int32.toInt_lt _⟩) hL
  have z : WP (600 + 400) 330 0 [some (vr 0), none, none, none] [] (h0 L xs) (fun v g => v = some (vi 1) ∧ g = h') := by rw [a3 600]; exact ⟨rfl, rfl⟩
  obtain ⟨n, v, g, hr, rfl, rfl⟩ := z
  exact ⟨n, g, hr, a1, by have : (h0 L xs).2.1 = 0 := rfl; omega⟩

/-! OBJECTS: the reference's one object by its numbers; field laws for simp. Written by gen_objs.py -/
def iup (i : Nat → Int) (k : Nat) (v : Int) : Nat → Int := fun j => if j = k then v else i j
theorem iup_s {i : Nat → Int} {k : Nat} {v : Int} : iup i k v k = v := if_pos rfl
theorem iup_n {i : Nat → Int} {k j : Nat} {v : Int} (h : j ≠ k) : iup i k v j = i j := if_neg h
def mdO (i : Nat → Int) : PC := oC 12 [vi (i 0), vr 72, vr 73, vr 74, vr 75, vi (i 5), vi (i 6), vi (i 7), vi (i 8), vi (i 9), vi (i 10), vi (i 11), vi (i 12), vi (i 13), vi (i 14), vi (i 15), vr 76, vr 77, vr 78, vi (i 19), vi (i 20), vr 79, vr 80, vr 81, vr 82, vi (i 25), vi (i 26), vr 83, vr 84, vr 85, vr 86, vl (i 31), vl (i 32), vr 87, vr 88, vr 89]
theorem mdO_c {i : Nat → Int} : clsO (mdO i) = some 12 := rfl
theorem mdO_g0 {i : Nat → Int} : gF (mdO i) 0 = vi (i 0) := rfl
theorem mdO_k0 {i : Nat → Int} : okF (mdO i) 12 0 = True := by simp [okF, mdO, oC]
theorem mdO_s0 {i : Nat → Int} {v : Int} : sF (mdO i) 0 (vi v) = mdO (iup i 0 v) := rfl
theorem mdO_g1 {i : Nat → Int} : gF (mdO i) 1 = vr 72 := rfl
theorem mdO_k1 {i : Nat → Int} : okF (mdO i) 12 1 = True := by simp [okF, mdO, oC]
theorem mdO_g2 {i : Nat → Int} : gF (mdO i) 2 = vr 73 := rfl
theorem mdO_k2 {i : Nat → Int} : okF (mdO i) 12 2 = True := by simp [okF, mdO, oC]
theorem mdO_g3 {i : Nat → Int} : gF (mdO i) 3 = vr 74 := rfl
theorem mdO_k3 {i : Nat → Int} : okF (mdO i) 12 3 = True := by simp [okF, mdO, oC]
theorem mdO_g4 {i : Nat → Int} : gF (mdO i) 4 = vr 75 := rfl
theorem mdO_k4 {i : Nat → Int} : okF (mdO i) 12 4 = True := by simp [okF, mdO, oC]
theorem mdO_g5 {i : Nat → Int} : gF (mdO i) 5 = vi (i 5) := rfl
theorem mdO_k5 {i : Nat → Int} : okF (mdO i) 12 5 = True := by simp [okF, mdO, oC]
theorem mdO_s5 {i : Nat → Int} {v : Int} : sF (mdO i) 5 (vi v) = mdO (iup i 5 v) := rfl
theorem mdO_g6 {i : Nat → Int} : gF (mdO i) 6 = vi (i 6) := rfl
theorem mdO_k6 {i : Nat → Int} : okF (mdO i) 12 6 = True := by simp [okF, mdO, oC]
theorem mdO_s6 {i : Nat → Int} {v : Int} : sF (mdO i) 6 (vi v) = mdO (iup i 6 v) := rfl
theorem mdO_g7 {i : Nat → Int} : gF (mdO i) 7 = vi (i 7) := rfl
theorem mdO_k7 {i : Nat → Int} : okF (mdO i) 12 7 = True := by simp [okF, mdO, oC]
theorem mdO_s7 {i : Nat → Int} {v : Int} : sF (mdO i) 7 (vi v) = mdO (iup i 7 v) := rfl
theorem mdO_g8 {i : Nat → Int} : gF (mdO i) 8 = vi (i 8) := rfl
theorem mdO_k8 {i : Nat → Int} : okF (mdO i) 12 8 = True := by simp [okF, mdO, oC]
theorem mdO_s8 {i : Nat → Int} {v : Int} : sF (mdO i) 8 (vi v) = mdO (iup i 8 v) := rfl
theorem mdO_g9 {i : Nat → Int} : gF (mdO i) 9 = vi (i 9) := rfl
theorem mdO_k9 {i : Nat → Int} : okF (mdO i) 12 9 = True := by simp [okF, mdO, oC]
theorem mdO_s9 {i : Nat → Int} {v : Int} : sF (mdO i) 9 (vi v) = mdO (iup i 9 v) := rfl
theorem mdO_g10 {i : Nat → Int} : gF (mdO i) 10 = vi (i 10) := rfl
theorem mdO_k10 {i : Nat → Int} : okF (mdO i) 12 10 = True := by simp [okF, mdO, oC]
theorem mdO_s10 {i : Nat → Int} {v : Int} : sF (mdO i) 10 (vi v) = mdO (iup i 10 v) := rfl
theorem mdO_g11 {i : Nat → Int} : gF (mdO i) 11 = vi (i 11) := rfl
theorem mdO_k11 {i : Nat → Int} : okF (mdO i) 12 11 = True := by simp [okF, mdO, oC]
theorem mdO_s11 {i : Nat → Int} {v : Int} : sF (mdO i) 11 (vi v) = mdO (iup i 11 v) := rfl
theorem mdO_g12 {i : Nat → Int} : gF (mdO i) 12 = vi (i 12) := rfl
theorem mdO_k12 {i : Nat → Int} : okF (mdO i) 12 12 = True := by simp [okF, mdO, oC]
theorem mdO_s12 {i : Nat → Int} {v : Int} : sF (mdO i) 12 (vi v) = mdO (iup i 12 v) := rfl
theorem mdO_g13 {i : Nat → Int} : gF (mdO i) 13 = vi (i 13) := rfl
theorem mdO_k13 {i : Nat → Int} : okF (mdO i) 12 13 = True := by simp [okF, mdO, oC]
theorem mdO_s13 {i : Nat → Int} {v : Int} : sF (mdO i) 13 (vi v) = mdO (iup i 13 v) := rfl
theorem mdO_g14 {i : Nat → Int} : gF (mdO i) 14 = vi (i 14) := rfl
theorem mdO_k14 {i : Nat → Int} : okF (mdO i) 12 14 = True := by simp [okF, mdO, oC]
theorem mdO_s14 {i : Nat → Int} {v : Int} : sF (mdO i) 14 (vi v) = mdO (iup i 14 v) := rfl
theorem mdO_g15 {i : Nat → Int} : gF (mdO i) 15 = vi (i 15) := rfl
theorem mdO_k15 {i : Nat → Int} : okF (mdO i) 12 15 = True := by simp [okF, mdO, oC]
theorem mdO_s15 {i : Nat → Int} {v : Int} : sF (mdO i) 15 (vi v) = mdO (iup i 15 v) := rfl
theorem mdO_g16 {i : Nat → Int} : gF (mdO i) 16 = vr 76 := rfl
theorem mdO_k16 {i : Nat → Int} : okF (mdO i) 12 16 = True := by simp [okF, mdO, oC]
theorem mdO_g17 {i : Nat → Int} : gF (mdO i) 17 = vr 77 := rfl
theorem mdO_k17 {i : Nat → Int} : okF (mdO i) 12 17 = True := by simp [okF, mdO, oC]
theorem mdO_g18 {i : Nat → Int} : gF (mdO i) 18 = vr 78 := rfl
theorem mdO_k18 {i : Nat → Int} : okF (mdO i) 12 18 = True := by simp [okF, mdO, oC]
theorem mdO_g19 {i : Nat → Int} : gF (mdO i) 19 = vi (i 19) := rfl
theorem mdO_k19 {i : Nat → Int} : okF (mdO i) 12 19 = True := by simp [okF, mdO, oC]
theorem mdO_s19 {i : Nat → Int} {v : Int} : sF (mdO i) 19 (vi v) = mdO (iup i 19 v) := rfl
theorem mdO_g20 {i : Nat → Int} : gF (mdO i) 20 = vi (i 20) := rfl
theorem mdO_k20 {i : Nat → Int} : okF (mdO i) 12 20 = True := by simp [okF, mdO, oC]
theorem mdO_s20 {i : Nat → Int} {v : Int} : sF (mdO i) 20 (vi v) = mdO (iup i 20 v) := rfl
theorem mdO_g21 {i : Nat → Int} : gF (mdO i) 21 = vr 79 := rfl
theorem mdO_k21 {i : Nat → Int} : okF (mdO i) 12 21 = True := by simp [okF, mdO, oC]
theorem mdO_g22 {i : Nat → Int} : gF (mdO i) 22 = vr 80 := rfl
theorem mdO_k22 {i : Nat → Int} : okF (mdO i) 12 22 = True := by simp [okF, mdO, oC]
theorem mdO_g23 {i : Nat → Int} : gF (mdO i) 23 = vr 81 := rfl
theorem mdO_k23 {i : Nat → Int} : okF (mdO i) 12 23 = True := by simp [okF, mdO, oC]
theorem mdO_g24 {i : Nat → Int} : gF (mdO i) 24 = vr 82 := rfl
theorem mdO_k24 {i : Nat → Int} : okF (mdO i) 12 24 = True := by simp [okF, mdO, oC]
theorem mdO_g25 {i : Nat → Int} : gF (mdO i) 25 = vi (i 25) := rfl
theorem mdO_k25 {i : Nat → Int} : okF (mdO i) 12 25 = True := by simp [okF, mdO, oC]
theorem mdO_s25 {i : Nat → Int} {v : Int} : sF (mdO i) 25 (vi v) = mdO (iup i 25 v) := rfl
theorem mdO_g26 {i : Nat → Int} : gF (mdO i) 26 = vi (i 26) := rfl
theorem mdO_k26 {i : Nat → Int} : okF (mdO i) 12 26 = True := by simp [okF, mdO, oC]
theorem mdO_s26 {i : Nat → Int} {v : Int} : sF (mdO i) 26 (vi v) = mdO (iup i 26 v) := rfl
theorem mdO_g27 {i : Nat → Int} : gF (mdO i) 27 = vr 83 := rfl
theorem mdO_k27 {i : Nat → Int} : okF (mdO i) 12 27 = True := by simp [okF, mdO, oC]
theorem mdO_g28 {i : Nat → Int} : gF (mdO i) 28 = vr 84 := rfl
theorem mdO_k28 {i : Nat → Int} : okF (mdO i) 12 28 = True := by simp [okF, mdO, oC]
theorem mdO_g29 {i : Nat → Int} : gF (mdO i) 29 = vr 85 := rfl
theorem mdO_k29 {i : Nat → Int} : okF (mdO i) 12 29 = True := by simp [okF, mdO, oC]
theorem mdO_g30 {i : Nat → Int} : gF (mdO i) 30 = vr 86 := rfl
theorem mdO_k30 {i : Nat → Int} : okF (mdO i) 12 30 = True := by simp [okF, mdO, oC]
theorem mdO_g31 {i : Nat → Int} : gF (mdO i) 31 = vl (i 31) := rfl
theorem mdO_k31 {i : Nat → Int} : okF (mdO i) 12 31 = True := by simp [okF, mdO, oC]
theorem mdO_s31 {i : Nat → Int} {v : Int} : sF (mdO i) 31 (vl v) = mdO (iup i 31 v) := rfl
theorem mdO_g32 {i : Nat → Int} : gF (mdO i) 32 = vl (i 32) := rfl
theorem mdO_k32 {i : Nat → Int} : okF (mdO i) 12 32 = True := by simp [okF, mdO, oC]
theorem mdO_s32 {i : Nat → Int} {v : Int} : sF (mdO i) 32 (vl v) = mdO (iup i 32 v) := rfl
theorem mdO_g33 {i : Nat → Int} : gF (mdO i) 33 = vr 87 := rfl
theorem mdO_k33 {i : Nat → Int} : okF (mdO i) 12 33 = True := by simp [okF, mdO, oC]
theorem mdO_g34 {i : Nat → Int} : gF (mdO i) 34 = vr 88 := rfl
theorem mdO_k34 {i : Nat → Int} : okF (mdO i) 12 34 = True := by simp [okF, mdO, oC]
theorem mdO_g35 {i : Nat → Int} : gF (mdO i) 35 = vr 89 := rfl
theorem mdO_k35 {i : Nat → Int} : okF (mdO i) 12 35 = True := by simp [okF, mdO, oC]
def bkO (i : Nat → Int) : PC := oC 11 [vr 11, vr 13, vr 27, vr 38, vr 41, vr 45, vr 59, vr 61, vr 64, vr 65, vr 66, vr 67, vi (i 12), vr 68, vr 69, vr 70, vi (i 16), vi (i 17)]
theorem bkO_c {i : Nat → Int} : clsO (bkO i) = some 11 := rfl
theorem bkO_g0 {i : Nat → Int} : gF (bkO i) 0 = vr 11 := rfl
theorem bkO_k0 {i : Nat → Int} : okF (bkO i) 11 0 = True := by simp [okF, bkO, oC]
theorem bkO_g1 {i : Nat → Int} : gF (bkO i) 1 = vr 13 := rfl
theorem bkO_k1 {i : Nat → Int} : okF (bkO i) 11 1 = True := by simp [okF, bkO, oC]
theorem bkO_g2 {i : Nat → Int} : gF (bkO i) 2 = vr 27 := rfl
theorem bkO_k2 {i : Nat → Int} : okF (bkO i) 11 2 = True := by simp [okF, bkO, oC]
theorem bkO_g3 {i : Nat → Int} : gF (bkO i) 3 = vr 38 := rfl
theorem bkO_k3 {i : Nat → Int} : okF (bkO i) 11 3 = True := by simp [okF, bkO, oC]
theorem bkO_g4 {i : Nat → Int} : gF (bkO i) 4 = vr 41 := rfl
theorem bkO_k4 {i : Nat → Int} : okF (bkO i) 11 4 = True := by simp [okF, bkO, oC]
theorem bkO_g5 {i : Nat → Int} : gF (bkO i) 5 = vr 45 := rfl
theorem bkO_k5 {i : Nat → Int} : okF (bkO i) 11 5 = True := by simp [okF, bkO, oC]
theorem bkO_g6 {i : Nat → Int} : gF (bkO i) 6 = vr 59 := rfl
theorem bkO_k6 {i : Nat → Int} : okF (bkO i) 11 6 = True := by simp [okF, bkO, oC]
theorem bkO_g7 {i : Nat → Int} : gF (bkO i) 7 = vr 61 := rfl
theorem bkO_k7 {i : Nat → Int} : okF (bkO i) 11 7 = True := by simp [okF, bkO, oC]
theorem bkO_g8 {i : Nat → Int} : gF (bkO i) 8 = vr 64 := rfl
theorem bkO_k8 {i : Nat → Int} : okF (bkO i) 11 8 = True := by simp [okF, bkO, oC]
theorem bkO_g9 {i : Nat → Int} : gF (bkO i) 9 = vr 65 := rfl
theorem bkO_k9 {i : Nat → Int} : okF (bkO i) 11 9 = True := by simp [okF, bkO, oC]
theorem bkO_g10 {i : Nat → Int} : gF (bkO i) 10 = vr 66 := rfl
theorem bkO_k10 {i : Nat → Int} : okF (bkO i) 11 10 = True := by simp [okF, bkO, oC]
theorem bkO_g11 {i : Nat → Int} : gF (bkO i) 11 = vr 67 := rfl
theorem bkO_k11 {i : Nat → Int} : okF (bkO i) 11 11 = True := by simp [okF, bkO, oC]
theorem bkO_g12 {i : Nat → Int} : gF (bkO i) 12 = vi (i 12) := rfl
theorem bkO_k12 {i : Nat → Int} : okF (bkO i) 11 12 = True := by simp [okF, bkO, oC]
theorem bkO_s12 {i : Nat → Int} {v : Int} : sF (bkO i) 12 (vi v) = bkO (iup i 12 v) := rfl
theorem bkO_g13 {i : Nat → Int} : gF (bkO i) 13 = vr 68 := rfl
theorem bkO_k13 {i : Nat → Int} : okF (bkO i) 11 13 = True := by simp [okF, bkO, oC]
theorem bkO_g14 {i : Nat → Int} : gF (bkO i) 14 = vr 69 := rfl
theorem bkO_k14 {i : Nat → Int} : okF (bkO i) 11 14 = True := by simp [okF, bkO, oC]
theorem bkO_g15 {i : Nat → Int} : gF (bkO i) 15 = vr 70 := rfl
theorem bkO_k15 {i : Nat → Int} : okF (bkO i) 11 15 = True := by simp [okF, bkO, oC]
theorem bkO_g16 {i : Nat → Int} : gF (bkO i) 16 = vi (i 16) := rfl
theorem bkO_k16 {i : Nat → Int} : okF (bkO i) 11 16 = True := by simp [okF, bkO, oC]
theorem bkO_s16 {i : Nat → Int} {v : Int} : sF (bkO i) 16 (vi v) = bkO (iup i 16 v) := rfl
theorem bkO_g17 {i : Nat → Int} : gF (bkO i) 17 = vi (i 17) := rfl
theorem bkO_k17 {i : Nat → Int} : okF (bkO i) 11 17 = True := by simp [okF, bkO, oC]
theorem bkO_s17 {i : Nat → Int} {v : Int} : sF (bkO i) 17 (vi v) = bkO (iup i 17 v) := rfl
def tkO (i : Nat → Int) : PC := oC 9 [vr 12, vi (i 1), vi (i 2), vi (i 3), vi (i 4), vi (i 5), vi (i 6), vi (i 7), vi (i 8)]
theorem tkO_c {i : Nat → Int} : clsO (tkO i) = some 9 := rfl
theorem tkO_g0 {i : Nat → Int} : gF (tkO i) 0 = vr 12 := rfl
theorem tkO_k0 {i : Nat → Int} : okF (tkO i) 9 0 = True := by simp [okF, tkO, oC]
theorem tkO_g1 {i : Nat → Int} : gF (tkO i) 1 = vi (i 1) := rfl
theorem tkO_k1 {i : Nat → Int} : okF (tkO i) 9 1 = True := by simp [okF, tkO, oC]
theorem tkO_s1 {i : Nat → Int} {v : Int} : sF (tkO i) 1 (vi v) = tkO (iup i 1 v) := rfl
theorem tkO_g2 {i : Nat → Int} : gF (tkO i) 2 = vi (i 2) := rfl
theorem tkO_k2 {i : Nat → Int} : okF (tkO i) 9 2 = True := by simp [okF, tkO, oC]
theorem tkO_s2 {i : Nat → Int} {v : Int} : sF (tkO i) 2 (vi v) = tkO (iup i 2 v) := rfl
theorem tkO_g3 {i : Nat → Int} : gF (tkO i) 3 = vi (i 3) := rfl
theorem tkO_k3 {i : Nat → Int} : okF (tkO i) 9 3 = True := by simp [okF, tkO, oC]
theorem tkO_s3 {i : Nat → Int} {v : Int} : sF (tkO i) 3 (vi v) = tkO (iup i 3 v) := rfl
theorem tkO_g4 {i : Nat → Int} : gF (tkO i) 4 = vi (i 4) := rfl
theorem tkO_k4 {i : Nat → Int} : okF (tkO i) 9 4 = True := by simp [okF, tkO, oC]
theorem tkO_s4 {i : Nat → Int} {v : Int} : sF (tkO i) 4 (vi v) = tkO (iup i 4 v) := rfl
theorem tkO_g5 {i : Nat → Int} : gF (tkO i) 5 = vi (i 5) := rfl
theorem tkO_k5 {i : Nat → Int} : okF (tkO i) 9 5 = True := by simp [okF, tkO, oC]
theorem tkO_s5 {i : Nat → Int} {v : Int} : sF (tkO i) 5 (vi v) = tkO (iup i 5 v) := rfl
theorem tkO_g6 {i : Nat → Int} : gF (tkO i) 6 = vi (i 6) := rfl
theorem tkO_k6 {i : Nat → Int} : okF (tkO i) 9 6 = True := by simp [okF, tkO, oC]
theorem tkO_s6 {i : Nat → Int} {v : Int} : sF (tkO i) 6 (vi v) = tkO (iup i 6 v) := rfl
theorem tkO_g7 {i : Nat → Int} : gF (tkO i) 7 = vi (i 7) := rfl
theorem tkO_k7 {i : Nat → Int} : okF (tkO i) 9 7 = True := by simp [okF, tkO, oC]
theorem tkO_s7 {i : Nat → Int} {v : Int} : sF (tkO i) 7 (vi v) = tkO (iup i 7 v) := rfl
theorem tkO_g8 {i : Nat → Int} : gF (tkO i) 8 = vi (i 8) := rfl
theorem tkO_k8 {i : Nat → Int} : okF (tkO i) 9 8 = True := by simp [okF, tkO, oC]
theorem tkO_s8 {i : Nat → Int} {v : Int} : sF (tkO i) 8 (vi v) = tkO (iup i 8 v) := rfl
def rdO (i : Nat → Int) : PC := oC 7 [vr 11, vr 14, vi (i 2), vi (i 3), vi (i 4), vr 15, vr 16, vr 17, vr 18, vr 19, vi (i 10), vi (i 11), vi (i 12), vi (i 13), vi (i 14), vi (i 15), vi (i 16), vi (i 17)]
theorem rdO_c {i : Nat → Int} : clsO (rdO i) = some 7 := rfl
theorem rdO_g0 {i : Nat → Int} : gF (rdO i) 0 = vr 11 := rfl
theorem rdO_k0 {i : Nat → Int} : okF (rdO i) 7 0 = True := by simp [okF, rdO, oC]
theorem rdO_g1 {i : Nat → Int} : gF (rdO i) 1 = vr 14 := rfl
theorem rdO_k1 {i : Nat → Int} : okF (rdO i) 7 1 = True := by simp [okF, rdO, oC]
theorem rdO_g2 {i : Nat → Int} : gF (rdO i) 2 = vi (i 2) := rfl
theorem rdO_k2 {i : Nat → Int} : okF (rdO i) 7 2 = True := by simp [okF, rdO, oC]
theorem rdO_s2 {i : Nat → Int} {v : Int} : sF (rdO i) 2 (vi v) = rdO (iup i 2 v) := rfl
theorem rdO_g3 {i : Nat → Int} : gF (rdO i) 3 = vi (i 3) := rfl
theorem rdO_k3 {i : Nat → Int} : okF (rdO i) 7 3 = True := by simp [okF, rdO, oC]
theorem rdO_s3 {i : Nat → Int} {v : Int} : sF (rdO i) 3 (vi v) = rdO (iup i 3 v) := rfl
theorem rdO_g4 {i : Nat → Int} : gF (rdO i) 4 = vi (i 4) := rfl
theorem rdO_k4 {i : Nat → Int} : okF (rdO i) 7 4 = True := by simp [okF, rdO, oC]
theorem rdO_s4 {i : Nat → Int} {v : Int} : sF (rdO i) 4 (vi v) = rdO (iup i 4 v) := rfl
theorem rdO_g5 {i : Nat → Int} : gF (rdO i) 5 = vr 15 := rfl
theorem rdO_k5 {i : Nat → Int} : okF (rdO i) 7 5 = True := by simp [okF, rdO, oC]
theorem rdO_g6 {i : Nat → Int} : gF (rdO i) 6 = vr 16 := rfl
theorem rdO_k6 {i : Nat → Int} : okF (rdO i) 7 6 = True := by simp [okF, rdO, oC]
theorem rdO_g7 {i : Nat → Int} : gF (rdO i) 7 = vr 17 := rfl
theorem rdO_k7 {i : Nat → Int} : okF (rdO i) 7 7 = True := by simp [okF, rdO, oC]
theorem rdO_g8 {i : Nat → Int} : gF (rdO i) 8 = vr 18 := rfl
theorem rdO_k8 {i : Nat → Int} : okF (rdO i) 7 8 = True := by simp [okF, rdO, oC]
theorem rdO_g9 {i : Nat → Int} : gF (rdO i) 9 = vr 19 := rfl
theorem rdO_k9 {i : Nat → Int} : okF (rdO i) 7 9 = True := by simp [okF, rdO, oC]
theorem rdO_g10 {i : Nat → Int} : gF (rdO i) 10 = vi (i 10) := rfl
theorem rdO_k10 {i : Nat → Int} : okF (rdO i) 7 10 = True := by simp [okF, rdO, oC]
theorem rdO_s10 {i : Nat → Int} {v : Int} : sF (rdO i) 10 (vi v) = rdO (iup i 10 v) := rfl
theorem rdO_g11 {i : Nat → Int} : gF (rdO i) 11 = vi (i 11) := rfl
theorem rdO_k11 {i : Nat → Int} : okF (rdO i) 7 11 = True := by simp [okF, rdO, oC]
theorem rdO_s11 {i : Nat → Int} {v : Int} : sF (rdO i) 11 (vi v) = rdO (iup i 11 v) := rfl
theorem rdO_g12 {i : Nat → Int} : gF (rdO i) 12 = vi (i 12) := rfl
theorem rdO_k12 {i : Nat → Int} : okF (rdO i) 7 12 = True := by simp [okF, rdO, oC]
theorem rdO_s12 {i : Nat → Int} {v : Int} : sF (rdO i) 12 (vi v) = rdO (iup i 12 v) := rfl
theorem rdO_g13 {i : Nat → Int} : gF (rdO i) 13 = vi (i 13) := rfl
theorem rdO_k13 {i : Nat → Int} : okF (rdO i) 7 13 = True := by simp [okF, rdO, oC]
theorem rdO_s13 {i : Nat → Int} {v : Int} : sF (rdO i) 13 (vi v) = rdO (iup i 13 v) := rfl
theorem rdO_g14 {i : Nat → Int} : gF (rdO i) 14 = vi (i 14) := rfl
theorem rdO_k14 {i : Nat → Int} : okF (rdO i) 7 14 = True := by simp [okF, rdO, oC]
theorem rdO_s14 {i : Nat → Int} {v : Int} : sF (rdO i) 14 (vi v) = rdO (iup i 14 v) := rfl
theorem rdO_g15 {i : Nat → Int} : gF (rdO i) 15 = vi (i 15) := rfl
theorem rdO_k15 {i : Nat → Int} : okF (rdO i) 7 15 = True := by simp [okF, rdO, oC]
theorem rdO_s15 {i : Nat → Int} {v : Int} : sF (rdO i) 15 (vi v) = rdO (iup i 15 v) := rfl
theorem rdO_g16 {i : Nat → Int} : gF (rdO i) 16 = vi (i 16) := rfl
theorem rdO_k16 {i : Nat → Int} : okF (rdO i) 7 16 = True := by simp [okF, rdO, oC]
theorem rdO_s16 {i : Nat → Int} {v : Int} : sF (rdO i) 16 (vi v) = rdO (iup i 16 v) := rfl
theorem rdO_g17 {i : Nat → Int} : gF (rdO i) 17 = vi (i 17) := rfl
theorem rdO_k17 {i : Nat → Int} : okF (rdO i) 7 17 = True := by simp [okF, rdO, oC]
theorem rdO_s17 {i : Nat → Int} {v : Int} : sF (rdO i) 17 (vi v) = rdO (iup i 17 v) := rfl
def hoO (i : Nat → Int) (pcounty : PV) : PC := oC 4 [pcounty, vi (i 1), vi (i 2), vr 28, vr 29, vr 30, vr 31, vr 32, vr 33, vi (i 9)]
theorem hoO_c {i : Nat → Int} {pcounty : PV} : clsO (hoO i pcounty) = some 4 := rfl
theorem hoO_g0 {i : Nat → Int} {pcounty : PV} : gF (hoO i pcounty) 0 = pcounty := rfl
theorem hoO_k0 {i : Nat → Int} {pcounty : PV} : okF (hoO i pcounty) 4 0 = True := by simp [okF, hoO, oC]
theorem hoO_s0 {i : Nat → Int} {pcounty : PV} {v : PV} : sF (hoO i pcounty) 0 v = hoO i v := rfl
theorem hoO_g1 {i : Nat → Int} {pcounty : PV} : gF (hoO i pcounty) 1 = vi (i 1) := rfl
theorem hoO_k1 {i : Nat → Int} {pcounty : PV} : okF (hoO i pcounty) 4 1 = True := by simp [okF, hoO, oC]
theorem hoO_s1 {i : Nat → Int} {pcounty : PV} {v : Int} : sF (hoO i pcounty) 1 (vi v) = hoO (iup i 1 v) pcounty := rfl
theorem hoO_g2 {i : Nat → Int} {pcounty : PV} : gF (hoO i pcounty) 2 = vi (i 2) := rfl
theorem hoO_k2 {i : Nat → Int} {pcounty : PV} : okF (hoO i pcounty) 4 2 = True := by simp [okF, hoO, oC]
theorem hoO_s2 {i : Nat → Int} {pcounty : PV} {v : Int} : sF (hoO i pcounty) 2 (vi v) = hoO (iup i 2 v) pcounty := rfl
theorem hoO_g3 {i : Nat → Int} {pcounty : PV} : gF (hoO i pcounty) 3 = vr 28 := rfl
theorem hoO_k3 {i : Nat → Int} {pcounty : PV} : okF (hoO i pcounty) 4 3 = True := by simp [okF, hoO, oC]
theorem hoO_g4 {i : Nat → Int} {pcounty : PV} : gF (hoO i pcounty) 4 = vr 29 := rfl
theorem hoO_k4 {i : Nat → Int} {pcounty : PV} : okF (hoO i pcounty) 4 4 = True := by simp [okF, hoO, oC]
theorem hoO_g5 {i : Nat → Int} {pcounty : PV} : gF (hoO i pcounty) 5 = vr 30 := rfl
theorem hoO_k5 {i : Nat → Int} {pcounty : PV} : okF (hoO i pcounty) 4 5 = True := by simp [okF, hoO, oC]
theorem hoO_g6 {i : Nat → Int} {pcounty : PV} : gF (hoO i pcounty) 6 = vr 31 := rfl
theorem hoO_k6 {i : Nat → Int} {pcounty : PV} : okF (hoO i pcounty) 4 6 = True := by simp [okF, hoO, oC]
theorem hoO_g7 {i : Nat → Int} {pcounty : PV} : gF (hoO i pcounty) 7 = vr 32 := rfl
theorem hoO_k7 {i : Nat → Int} {pcounty : PV} : okF (hoO i pcounty) 4 7 = True := by simp [okF, hoO, oC]
theorem hoO_g8 {i : Nat → Int} {pcounty : PV} : gF (hoO i pcounty) 8 = vr 33 := rfl
theorem hoO_k8 {i : Nat → Int} {pcounty : PV} : okF (hoO i pcounty) 4 8 = True := by simp [okF, hoO, oC]
theorem hoO_g9 {i : Nat → Int} {pcounty : PV} : gF (hoO i pcounty) 9 = vi (i 9) := rfl
theorem hoO_k9 {i : Nat → Int} {pcounty : PV} : okF (hoO i pcounty) 4 9 = True := by simp [okF, hoO, oC]
theorem hoO_s9 {i : Nat → Int} {pcounty : PV} {v : Int} : sF (hoO i pcounty) 9 (vi v) = hoO (iup i 9 v) pcounty := rfl
def dkO (plist pother pmarks : PV) : PC := oC 3 [plist, pother, pmarks]
theorem dkO_c {plist pother pmarks : PV} : clsO (dkO plist pother pmarks) = some 3 := rfl
theorem dkO_g0 {plist pother pmarks : PV} : gF (dkO plist pother pmarks) 0 = plist := rfl
theorem dkO_k0 {plist pother pmarks : PV} : okF (dkO plist pother pmarks) 3 0 = True := by simp [okF, dkO, oC]
theorem dkO_s0 {plist pother pmarks : PV} {v : PV} : sF (dkO plist pother pmarks) 0 v = dkO v pother pmarks := rfl
theorem dkO_g1 {plist pother pmarks : PV} : gF (dkO plist pother pmarks) 1 = pother := rfl
theorem dkO_k1 {plist pother pmarks : PV} : okF (dkO plist pother pmarks) 3 1 = True := by simp [okF, dkO, oC]
theorem dkO_s1 {plist pother pmarks : PV} {v : PV} : sF (dkO plist pother pmarks) 1 v = dkO plist v pmarks := rfl
theorem dkO_g2 {plist pother pmarks : PV} : gF (dkO plist pother pmarks) 2 = pmarks := rfl
theorem dkO_k2 {plist pother pmarks : PV} : okF (dkO plist pother pmarks) 3 2 = True := by simp [okF, dkO, oC]
theorem dkO_s2 {plist pother pmarks : PV} {v : PV} : sF (dkO plist pother pmarks) 2 v = dkO plist pother v := rfl
def cmO (i : Nat → Int) (pcounty pqueue porigin : PV) : PC := oC 1 [pcounty, vi (i 1), vi (i 2), pqueue, porigin, vi (i 5), vi (i 6)]
theorem cmO_c {i : Nat → Int} {pcounty pqueue porigin : PV} : clsO (cmO i pcounty pqueue porigin) = some 1 := rfl
theorem cmO_g0 {i : Nat → Int} {pcounty pqueue porigin : PV} : gF (cmO i pcounty pqueue porigin) 0 = pcounty := rfl
theorem cmO_k0 {i : Nat → Int} {pcounty pqueue porigin : PV} : okF (cmO i pcounty pqueue porigin) 1 0 = True := by simp [okF, cmO, oC]
theorem cmO_s0 {i : Nat → Int} {pcounty pqueue porigin : PV} {v : PV} : sF (cmO i pcounty pqueue porigin) 0 v = cmO i v pqueue porigin := rfl
theorem cmO_g1 {i : Nat → Int} {pcounty pqueue porigin : PV} : gF (cmO i pcounty pqueue porigin) 1 = vi (i 1) := rfl
theorem cmO_k1 {i : Nat → Int} {pcounty pqueue porigin : PV} : okF (cmO i pcounty pqueue porigin) 1 1 = True := by simp [okF, cmO, oC]
theorem cmO_s1 {i : Nat → Int} {pcounty pqueue porigin : PV} {v : Int} : sF (cmO i pcounty pqueue porigin) 1 (vi v) = cmO (iup i 1 v) pcounty pqueue porigin := rfl
theorem cmO_g2 {i : Nat → Int} {pcounty pqueue porigin : PV} : gF (cmO i pcounty pqueue porigin) 2 = vi (i 2) := rfl
theorem cmO_k2 {i : Nat → Int} {pcounty pqueue porigin : PV} : okF (cmO i pcounty pqueue porigin) 1 2 = True := by simp [okF, cmO, oC]
theorem cmO_s2 {i : Nat → Int} {pcounty pqueue porigin : PV} {v : Int} : sF (cmO i pcounty pqueue porigin) 2 (vi v) = cmO (iup i 2 v) pcounty pqueue porigin := rfl
theorem cmO_g3 {i : Nat → Int} {pcounty pqueue porigin : PV} : gF (cmO i pcounty pqueue porigin) 3 = pqueue := rfl
theorem cmO_k3 {i : Nat → Int} {pcounty pqueue porigin : PV} : okF (cmO i pcounty pqueue porigin) 1 3 = True := by simp [okF, cmO, oC]
theorem cmO_s3 {i : Nat → Int} {pcounty pqueue porigin : PV} {v : PV} : sF (cmO i pcounty pqueue porigin) 3 v = cmO i pcounty v porigin := rfl
theorem cmO_g4 {i : Nat → Int} {pcounty pqueue porigin : PV} : gF (cmO i pcounty pqueue porigin) 4 = porigin := rfl
theorem cmO_k4 {i : Nat → Int} {pcounty pqueue porigin : PV} : okF (cmO i pcounty pqueue porigin) 1 4 = True := by simp [okF, cmO, oC]
theorem cmO_s4 {i : Nat → Int} {pcounty pqueue porigin : PV} {v : PV} : sF (cmO i pcounty pqueue porigin) 4 v = cmO i pcounty pqueue v := rfl
theorem cmO_g5 {i : Nat → Int} {pcounty pqueue porigin : PV} : gF (cmO i pcounty pqueue porigin) 5 = vi (i 5) := rfl
theorem cmO_k5 {i : Nat → Int} {pcounty pqueue porigin : PV} : okF (cmO i pcounty pqueue porigin) 1 5 = True := by simp [okF, cmO, oC]
theorem cmO_s5 {i : Nat → Int} {pcounty pqueue porigin : PV} {v : Int} : sF (cmO i pcounty pqueue porigin) 5 (vi v) = cmO (iup i 5 v) pcounty pqueue porigin := rfl
theorem cmO_g6 {i : Nat → Int} {pcounty pqueue porigin : PV} : gF (cmO i pcounty pqueue porigin) 6 = vi (i 6) := rfl
theorem cmO_k6 {i : Nat → Int} {pcounty pqueue porigin : PV} : okF (cmO i pcounty pqueue porigin) 1 6 = True := by simp [okF, cmO, oC]
theorem cmO_s6 {i : Nat → Int} {pcounty pqueue porigin : PV} {v : Int} : sF (cmO i pcounty pqueue porigin) 6 (vi v) = cmO (iup i 6 v) pcounty pqueue porigin := rfl
def kpO (i : Nat → Int) (pcounty pworths : PV) : PC := oC 5 [vr 34, pcounty, vi (i 2), pworths, vi (i 4), vr 43, vr 44]
theorem kpO_c {i : Nat → Int} {pcounty pworths : PV} : clsO (kpO i pcounty pworths) = some 5 := rfl
theorem kpO_g0 {i : Nat → Int} {pcounty pworths : PV} : gF (kpO i pcounty pworths) 0 = vr 34 := rfl
theorem kpO_k0 {i : Nat → Int} {pcounty pworths : PV} : okF (kpO i pcounty pworths) 5 0 = True := by simp [okF, kpO, oC]
theorem kpO_g1 {i : Nat → Int} {pcounty pworths : PV} : gF (kpO i pcounty pworths) 1 = pcounty := rfl
theorem kpO_k1 {i : Nat → Int} {pcounty pworths : PV} : okF (kpO i pcounty pworths) 5 1 = True := by simp [okF, kpO, oC]
theorem kpO_s1 {i : Nat → Int} {pcounty pworths : PV} {v : PV} : sF (kpO i pcounty pworths) 1 v = kpO i v pworths := rfl
theorem kpO_g2 {i : Nat → Int} {pcounty pworths : PV} : gF (kpO i pcounty pworths) 2 = vi (i 2) := rfl
theorem kpO_k2 {i : Nat → Int} {pcounty pworths : PV} : okF (kpO i pcounty pworths) 5 2 = True := by simp [okF, kpO, oC]
theorem kpO_s2 {i : Nat → Int} {pcounty pworths : PV} {v : Int} : sF (kpO i pcounty pworths) 2 (vi v) = kpO (iup i 2 v) pcounty pworths := rfl
theorem kpO_g3 {i : Nat → Int} {pcounty pworths : PV} : gF (kpO i pcounty pworths) 3 = pworths := rfl
theorem kpO_k3 {i : Nat → Int} {pcounty pworths : PV} : okF (kpO i pcounty pworths) 5 3 = True := by simp [okF, kpO, oC]
theorem kpO_s3 {i : Nat → Int} {pcounty pworths : PV} {v : PV} : sF (kpO i pcounty pworths) 3 v = kpO i pcounty v := rfl
theorem kpO_g4 {i : Nat → Int} {pcounty pworths : PV} : gF (kpO i pcounty pworths) 4 = vi (i 4) := rfl
theorem kpO_k4 {i : Nat → Int} {pcounty pworths : PV} : okF (kpO i pcounty pworths) 5 4 = True := by simp [okF, kpO, oC]
theorem kpO_s4 {i : Nat → Int} {pcounty pworths : PV} {v : Int} : sF (kpO i pcounty pworths) 4 (vi v) = kpO (iup i 4 v) pcounty pworths := rfl
theorem kpO_g5 {i : Nat → Int} {pcounty pworths : PV} : gF (kpO i pcounty pworths) 5 = vr 43 := rfl
theorem kpO_k5 {i : Nat → Int} {pcounty pworths : PV} : okF (kpO i pcounty pworths) 5 5 = True := by simp [okF, kpO, oC]
theorem kpO_g6 {i : Nat → Int} {pcounty pworths : PV} : gF (kpO i pcounty pworths) 6 = vr 44 := rfl
theorem kpO_k6 {i : Nat → Int} {pcounty pworths : PV} : okF (kpO i pcounty pworths) 5 6 = True := by simp [okF, kpO, oC]
def rwO (i : Nat → Int) (pcounts psums : PV) : PC := oC 8 [vr 34, pcounts, psums, vr 48, vi (i 4), vr 49, vr 58]
theorem rwO_c {i : Nat → Int} {pcounts psums : PV} : clsO (rwO i pcounts psums) = some 8 := rfl
theorem rwO_g0 {i : Nat → Int} {pcounts psums : PV} : gF (rwO i pcounts psums) 0 = vr 34 := rfl
theorem rwO_k0 {i : Nat → Int} {pcounts psums : PV} : okF (rwO i pcounts psums) 8 0 = True := by simp [okF, rwO, oC]
theorem rwO_g1 {i : Nat → Int} {pcounts psums : PV} : gF (rwO i pcounts psums) 1 = pcounts := rfl
theorem rwO_k1 {i : Nat → Int} {pcounts psums : PV} : okF (rwO i pcounts psums) 8 1 = True := by simp [okF, rwO, oC]
theorem rwO_s1 {i : Nat → Int} {pcounts psums : PV} {v : PV} : sF (rwO i pcounts psums) 1 v = rwO i v psums := rfl
theorem rwO_g2 {i : Nat → Int} {pcounts psums : PV} : gF (rwO i pcounts psums) 2 = psums := rfl
theorem rwO_k2 {i : Nat → Int} {pcounts psums : PV} : okF (rwO i pcounts psums) 8 2 = True := by simp [okF, rwO, oC]
theorem rwO_s2 {i : Nat → Int} {pcounts psums : PV} {v : PV} : sF (rwO i pcounts psums) 2 v = rwO i pcounts v := rfl
theorem rwO_g3 {i : Nat → Int} {pcounts psums : PV} : gF (rwO i pcounts psums) 3 = vr 48 := rfl
theorem rwO_k3 {i : Nat → Int} {pcounts psums : PV} : okF (rwO i pcounts psums) 8 3 = True := by simp [okF, rwO, oC]
theorem rwO_g4 {i : Nat → Int} {pcounts psums : PV} : gF (rwO i pcounts psums) 4 = vi (i 4) := rfl
theorem rwO_k4 {i : Nat → Int} {pcounts psums : PV} : okF (rwO i pcounts psums) 8 4 = True := by simp [okF, rwO, oC]
theorem rwO_s4 {i : Nat → Int} {pcounts psums : PV} {v : Int} : sF (rwO i pcounts psums) 4 (vi v) = rwO (iup i 4 v) pcounts psums := rfl
theorem rwO_g5 {i : Nat → Int} {pcounts psums : PV} : gF (rwO i pcounts psums) 5 = vr 49 := rfl
theorem rwO_k5 {i : Nat → Int} {pcounts psums : PV} : okF (rwO i pcounts psums) 8 5 = True := by simp [okF, rwO, oC]
theorem rwO_g6 {i : Nat → Int} {pcounts psums : PV} : gF (rwO i pcounts psums) 6 = vr 58 := rfl
theorem rwO_k6 {i : Nat → Int} {pcounts psums : PV} : okF (rwO i pcounts psums) 8 6 = True := by simp [okF, rwO, oC]
def beO (i : Nat → Int) (pcounty pworths : PV) : PC := oC 0 [vr 34, pcounty, vi (i 2), pworths, vi (i 4)]
theorem beO_c {i : Nat → Int} {pcounty pworths : PV} : clsO (beO i pcounty pworths) = some 0 := rfl
theorem beO_g0 {i : Nat → Int} {pcounty pworths : PV} : gF (beO i pcounty pworths) 0 = vr 34 := rfl
theorem beO_k0 {i : Nat → Int} {pcounty pworths : PV} : okF (beO i pcounty pworths) 0 0 = True := by simp [okF, beO, oC]
theorem beO_g1 {i : Nat → Int} {pcounty pworths : PV} : gF (beO i pcounty pworths) 1 = pcounty := rfl
theorem beO_k1 {i : Nat → Int} {pcounty pworths : PV} : okF (beO i pcounty pworths) 0 1 = True := by simp [okF, beO, oC]
theorem beO_s1 {i : Nat → Int} {pcounty pworths : PV} {v : PV} : sF (beO i pcounty pworths) 1 v = beO i v pworths := rfl
theorem beO_g2 {i : Nat → Int} {pcounty pworths : PV} : gF (beO i pcounty pworths) 2 = vi (i 2) := rfl
theorem beO_k2 {i : Nat → Int} {pcounty pworths : PV} : okF (beO i pcounty pworths) 0 2 = True := by simp [okF, beO, oC]
theorem beO_s2 {i : Nat → Int} {pcounty pworths : PV} {v : Int} : sF (beO i pcounty pworths) 2 (vi v) = beO (iup i 2 v) pcounty pworths := rfl
theorem beO_g3 {i : Nat → Int} {pcounty pworths : PV} : gF (beO i pcounty pworths) 3 = pworths := rfl
theorem beO_k3 {i : Nat → Int} {pcounty pworths : PV} : okF (beO i pcounty pworths) 0 3 = True := by simp [okF, beO, oC]
theorem beO_s3 {i : Nat → Int} {pcounty pworths : PV} {v : PV} : sF (beO i pcounty pworths) 3 v = beO i pcounty v := rfl
theorem beO_g4 {i : Nat → Int} {pcounty pworths : PV} : gF (beO i pcounty pworths) 4 = vi (i 4) := rfl
theorem beO_k4 {i : Nat → Int} {pcounty pworths : PV} : okF (beO i pcounty pworths) 0 4 = True := by simp [okF, beO, oC]
theorem beO_s4 {i : Nat → Int} {pcounty pworths : PV} {v : Int} : sF (beO i pcounty pworths) 4 (vi v) = beO (iup i 4 v) pcounty pworths := rfl
def toO (i : Nat → Int) : PC := oC 10 [vr 62, vi (i 1), vl (i 2), vl (i 3), vi (i 4), vr 63, vi (i 6)]
theorem toO_c {i : Nat → Int} : clsO (toO i) = some 10 := rfl
theorem toO_g0 {i : Nat → Int} : gF (toO i) 0 = vr 62 := rfl
theorem toO_k0 {i : Nat → Int} : okF (toO i) 10 0 = True := by simp [okF, toO, oC]
theorem toO_g1 {i : Nat → Int} : gF (toO i) 1 = vi (i 1) := rfl
theorem toO_k1 {i : Nat → Int} : okF (toO i) 10 1 = True := by simp [okF, toO, oC]
theorem toO_s1 {i : Nat → Int} {v : Int} : sF (toO i) 1 (vi v) = toO (iup i 1 v) := rfl
theorem toO_g2 {i : Nat → Int} : gF (toO i) 2 = vl (i 2) := rfl
theorem toO_k2 {i : Nat → Int} : okF (toO i) 10 2 = True := by simp [okF, toO, oC]
theorem toO_s2 {i : Nat → Int} {v : Int} : sF (toO i) 2 (vl v) = toO (iup i 2 v) := rfl
theorem toO_g3 {i : Nat → Int} : gF (toO i) 3 = vl (i 3) := rfl
theorem toO_k3 {i : Nat → Int} : okF (toO i) 10 3 = True := by simp [okF, toO, oC]
theorem toO_s3 {i : Nat → Int} {v : Int} : sF (toO i) 3 (vl v) = toO (iup i 3 v) := rfl
theorem toO_g4 {i : Nat → Int} : gF (toO i) 4 = vi (i 4) := rfl
theorem toO_k4 {i : Nat → Int} : okF (toO i) 10 4 = True := by simp [okF, toO, oC]
theorem toO_s4 {i : Nat → Int} {v : Int} : sF (toO i) 4 (vi v) = toO (iup i 4 v) := rfl
theorem toO_g5 {i : Nat → Int} : gF (toO i) 5 = vr 63 := rfl
theorem toO_k5 {i : Nat → Int} : okF (toO i) 10 5 = True := by simp [okF, toO, oC]
theorem toO_g6 {i : Nat → Int} : gF (toO i) 6 = vi (i 6) := rfl
theorem toO_k6 {i : Nat → Int} : okF (toO i) 10 6 = True := by simp [okF, toO, oC]
theorem toO_s6 {i : Nat → Int} {v : Int} : sF (toO i) 6 (vi v) = toO (iup i 6 v) := rfl
def moO (i : Nat → Int) (pcounty : PV) : PC := oC 6 [pcounty, vi (i 1), vi (i 2), vi (i 3)]
theorem moO_c {i : Nat → Int} {pcounty : PV} : clsO (moO i pcounty) = some 6 := rfl
theorem moO_g0 {i : Nat → Int} {pcounty : PV} : gF (moO i pcounty) 0 = pcounty := rfl
theorem moO_k0 {i : Nat → Int} {pcounty : PV} : okF (moO i pcounty) 6 0 = True := by simp [okF, moO, oC]
theorem moO_s0 {i : Nat → Int} {pcounty : PV} {v : PV} : sF (moO i pcounty) 0 v = moO i v := rfl
theorem moO_g1 {i : Nat → Int} {pcounty : PV} : gF (moO i pcounty) 1 = vi (i 1) := rfl
theorem moO_k1 {i : Nat → Int} {pcounty : PV} : okF (moO i pcounty) 6 1 = True := by simp [okF, moO, oC]
theorem moO_s1 {i : Nat → Int} {pcounty : PV} {v : Int} : sF (moO i pcounty) 1 (vi v) = moO (iup i 1 v) pcounty := rfl
theorem moO_g2 {i : Nat → Int} {pcounty : PV} : gF (moO i pcounty) 2 = vi (i 2) := rfl
theorem moO_k2 {i : Nat → Int} {pcounty : PV} : okF (moO i pcounty) 6 2 = True := by simp [okF, moO, oC]
theorem moO_s2 {i : Nat → Int} {pcounty : PV} {v : Int} : sF (moO i pcounty) 2 (vi v) = moO (iup i 2 v) pcounty := rfl
theorem moO_g3 {i : Nat → Int} {pcounty : PV} : gF (moO i pcounty) 3 = vi (i 3) := rfl
theorem moO_k3 {i : Nat → Int} {pcounty : PV} : okF (moO i pcounty) 6 3 = True := by simp [okF, moO, oC]
theorem moO_s3 {i : Nat → Int} {pcounty : PV} {v : Int} : sF (moO i pcounty) 3 (vi v) = moO (iup i 3 v) pcounty := rfl

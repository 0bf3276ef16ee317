section JDK
variable {q : MI} {d : Nat} {x : XM} {mc ms : Nat} {oc : TG} {al : Option Nat} {cs ss pc : Nat} {lv : List (Option Value)} {st : List Value} {M : Mem}
theorem mw_min : Cond.methodLink RX0 144 Lib.Math.min.name ∈ tblG ∧ Cond.static Lib.Math.min.name ∈ tblG ∧ Cond.initialized "java/lang/Math" ∈ tblG ∧ Cond.code Lib.Math.min.name Lib.Math.min.code 2 (some .int) ∈ tblG := ⟨(tG 1025 (by decide +kernel) (by decide +kernel)), (tG 1026 (by decide +kernel) (by decide +kernel)), (tG 36 (by decide +kernel) (by decide +kernel)), (tG 1027 (by decide +kernel) (by decide +kernel))⟩
theorem r_mmin {w1 w2 : Int32} (hq : q.1.cls = RX0) (hd1 : 1 ≤ d) (hW : (st.map fun v => v.category).sum ≤ 8) (hcs : cs ≤ mc ∧ ss ≤ ms) (h0 : dec q pc = .ok (.invokestatic 144, 3)) (k : G q d x mc ms oc al cs ss (pc + 3) lv (.int (if w2 < w1 then w2 else w1) :: st) M) : G q d x mc ms oc al cs ss pc lv (.int w2 :: .int w1 :: st) M := by
  intro p l e R s m args below meth c H locs Q D nx nz ad ca A ls C hd hP hS hal hl
  obtain ⟨hx, hb, hml, hr, hown, hts, hK, hE, hA, hJ, hAd, hlk, hst, hRm, hmd⟩ := id C
  obtain ⟨g1, g2, g3, g4⟩ := mw_min
  rw [← hq] at g1
  exact va_mmin hx hb (by rw [hml]; exact hl.size.symm) hown (hts _ g1) (hts _ g2) (hts _ g3) (hts _ g4) (by have := hRm.1; omega) (by rw [cv_sum]; have := hRm.2.1; omega) (by have := hRm.2.2.1; omega) (by have := hRm.2.2.2; omega) h0 (k p l e R s m args below meth c H locs Q D nx nz ad ca A ls C hd hP hS hal hl)
theorem mw_max : Cond.methodLink RX3 107 Lib.Math.max.name ∈ tblG ∧ Cond.static Lib.Math.max.name ∈ tblG ∧ Cond.initialized "java/lang/Math" ∈ tblG ∧ Cond.code Lib.Math.max.name Lib.Math.max.code 2 (some .int) ∈ tblG := ⟨(tG 654 (by decide +kernel) (by decide +kernel)), (tG 655 (by decide +kernel) (by decide +kernel)), (tG 36 (by decide +kernel) (by decide +kernel)), (tG 656 (by decide +kernel) (by decide +kernel))⟩
theorem r_mmax {w1 w2 : Int32} (hq : q.1.cls = RX3) (hd1 : 1 ≤ d) (hW : (st.map fun v => v.category).sum ≤ 8) (hcs : cs ≤ mc ∧ ss ≤ ms) (h0 : dec q pc = .ok (.invokestatic 107, 3)) (k : G q d x mc ms oc al cs ss (pc + 3) lv (.int (if w1 < w2 then w2 else w1) :: st) M) : G q d x mc ms oc al cs ss pc lv (.int w2 :: .int w1 :: st) M := by
  intro p l e R s m args below meth c H locs Q D nx nz ad ca A ls C hd hP hS hal hl
  obtain ⟨hx, hb, hml, hr, hown, hts, hK, hE, hA, hJ, hAd, hlk, hst, hRm, hmd⟩ := id C
  obtain ⟨g1, g2, g3, g4⟩ := mw_max
  rw [← hq] at g1
  exact va_mmax hx hb (by rw [hml]; exact hl.size.symm) hown (hts _ g1) (hts _ g2) (hts _ g3) (hts _ g4) (by have := hRm.1; omega) (by rw [cv_sum]; have := hRm.2.1; omega) (by have := hRm.2.2.1; omega) (by have := hRm.2.2.2; omega) h0 (k p l e R s m args below meth c H locs Q D nx nz ad ca A ls C hd hP hS hal hl)
theorem mw_copy : Cond.methodLink RX5 40 arraycopyName ∈ tblG ∧ Cond.native arraycopyName ∈ tblG ∧ Cond.static arraycopyName ∈ tblG ∧ Cond.initialized "java/lang/System" ∈ tblG := ⟨(tG 783 (by decide +kernel) (by decide +kernel)), (tG 785 (by decide +kernel) (by decide +kernel)), (tG 784 (by decide +kernel) (by decide +kernel)), (tG 38 (by decide +kernel) (by decide +kernel))⟩
theorem r_copyi {a0 a1 n0 n1 : Nat} {f g : Nat → Int32} {i0 i1 n : Nat} (hq : q.1.cls = RX5) (hd1 : 1 ≤ d) (hW : (st.map fun v => v.category).sum ≤ 8) (h0 : dec q pc = .ok (.invokestatic 40, 3)) (hM0 : M a0 = some (cI n0 f)) (hM1 : M a1 = some (cI n1 g)) (hn : n < 2147483648) (hi0 : i0 < 2147483648) (hi1 : i1 < 2147483648) (h4 : i0 + n ≤ n0) (h5 : i1 + n ≤ n1) (k : G q d x mc ms oc al cs ss (pc + 3) lv st (mset M a1 (cI n1 (va_cpy f g i0 i1 n)))) : G q d x mc ms oc al cs ss pc lv (.int (nI n) :: .int (nI i1) :: .ref a1 :: .int (nI i0) :: .ref a0 :: st) M := by
  intro p l e R s m args below meth c H locs Q D nx nz ad ca A ls C hd hP hS hal hl
  obtain ⟨hx, hb, hml, hr, hown, hts, hK, hE, hA, hJ, hAd, hlk, hst, hRm, hmd⟩ := id C
  obtain ⟨g1, g2, g3, g4⟩ := mw_copy
  rw [← hq] at g1
  refine va_copyi (D := D) (cl := vwCl) (ws := wl nx ad ca M) (tys := tysOf ca) (A := A) hx hb (by rw [hml]; exact hl.size.symm) hown (hts _ g1) (hts _ g2) (hts _ g3) (hts _ g4) hK hP (wl_D hJ hAd) hS a0 a1 0 0 (wl_at (hd a0 _ hM0) hM0) (wl_at (hd a1 _ hM1) hM1) rfl rfl rfl (nI_pos hi0) (nI_pos hi1) (nI_pos hn) (by rw [nI_clamp hi0, nI_clamp hn]; exact h4) (by rw [nI_clamp hi1, nI_clamp hn]; exact h5) (fun _ _ => rfl) (by have := hRm.1; omega) (by rw [cv_sum]; have h9 : nativeFrameWords "java/lang/System" "arraycopy" 5 ≤ 20 := (by decide); have := hRm.2.1; omega) h0 (fun H1 locs1 hP1 _ hS1 => ?_)
  refine k p l e R s m args below meth c H1 locs1 Q D nx nz ad ca A ls C (hd.set hM1) (?_) hS1 hal hl
  rw [wl_set]
  rw [nI_clamp hi0, nI_clamp hi1, nI_clamp hn] at hP1
  exact hP1
end JDK

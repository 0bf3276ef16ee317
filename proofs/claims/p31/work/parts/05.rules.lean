section RULES
variable {q : MI} {d : Nat} {x : XM} {mc ms : Nat} {oc : TG} {al : Option Nat} {cs ss pc : Nat} {lv : List (Option Value)} {st : List Value} {M : Mem}
theorem G_st {st' : List Value} (h : st = st') (k : G q d x mc ms oc al cs ss pc lv st' M) : G q d x mc ms oc al cs ss pc lv st M := h ▸ k
theorem G_M {M1 : Mem} (h : M = M1) (k : G q d x mc ms oc al cs ss pc lv st M1) : G q d x mc ms oc al cs ss pc lv st M := h ▸ k
theorem G_lv {lv' : List (Option Value)} (h : lv = lv') (k : G q d x mc ms oc al cs ss pc lv' st M) : G q d x mc ms oc al cs ss pc lv st M := h ▸ k
theorem r_iload0 {tl : List (Option Value)} {v : Int32} (h0 : dec q pc = .ok (.iload_n 0, 1)) (k : G q d x mc ms oc al cs ss (pc + 1) (some (.int v) :: tl) (.int v :: st) M) : G q d x mc ms oc al cs ss pc (some (.int v) :: tl) st M := by
  intro p l e R s m args below meth c H locs Q D nx nz ad ca A ls C hd hP hS hal hl
  obtain ⟨hx, hb, hml, hr, hown, hts, hK, hE, hA, hJ, hAd, hlk, hst, hRm, hmd⟩ := id C
  exact lv_iload_n hx hb h0 rfl (hl.get 0 rfl) (k p l e R s m args below meth c H locs Q D nx nz ad ca A ls C hd hP hS hal hl)
theorem r_iload1 {a0 : Option Value} {tl : List (Option Value)} {v : Int32} (h0 : dec q pc = .ok (.iload_n 1, 1)) (k : G q d x mc ms oc al cs ss (pc + 1) (a0 :: some (.int v) :: tl) (.int v :: st) M) : G q d x mc ms oc al cs ss pc (a0 :: some (.int v) :: tl) st M := by
  intro p l e R s m args below meth c H locs Q D nx nz ad ca A ls C hd hP hS hal hl
  obtain ⟨hx, hb, hml, hr, hown, hts, hK, hE, hA, hJ, hAd, hlk, hst, hRm, hmd⟩ := id C
  exact lv_iload_n hx hb h0 rfl (hl.get 1 rfl) (k p l e R s m args below meth c H locs Q D nx nz ad ca A ls C hd hP hS hal hl)
theorem r_iload2 {a0 a1 : Option Value} {tl : List (Option Value)} {v : Int32} (h0 : dec q pc = .ok (.iload_n 2, 1)) (k : G q d x mc ms oc al cs ss (pc + 1) (a0 :: a1 :: some (.int v) :: tl) (.int v :: st) M) : G q d x mc ms oc al cs ss pc (a0 :: a1 :: some (.int v) :: tl) st M := by
  intro p l e R s m args below meth c H locs Q D nx nz ad ca A ls C hd hP hS hal hl
  obtain ⟨hx, hb, hml, hr, hown, hts, hK, hE, hA, hJ, hAd, hlk, hst, hRm, hmd⟩ := id C
  exact lv_iload_n hx hb h0 rfl (hl.get 2 rfl) (k p l e R s m args below meth c H locs Q D nx nz ad ca A ls C hd hP hS hal hl)
theorem r_iload3 {a0 a1 a2 : Option Value} {tl : List (Option Value)} {v : Int32} (h0 : dec q pc = .ok (.iload_n 3, 1)) (k : G q d x mc ms oc al cs ss (pc + 1) (a0 :: a1 :: a2 :: some (.int v) :: tl) (.int v :: st) M) : G q d x mc ms oc al cs ss pc (a0 :: a1 :: a2 :: some (.int v) :: tl) st M := by
  intro p l e R s m args below meth c H locs Q D nx nz ad ca A ls C hd hP hS hal hl
  obtain ⟨hx, hb, hml, hr, hown, hts, hK, hE, hA, hJ, hAd, hlk, hst, hRm, hmd⟩ := id C
  exact lv_iload_n hx hb h0 rfl (hl.get 3 rfl) (k p l e R s m args below meth c H locs Q D nx nz ad ca A ls C hd hP hS hal hl)
theorem r_iload4 {a0 a1 a2 a3 : Option Value} {tl : List (Option Value)} {v : Int32} (h0 : dec q pc = .ok (.iload 4, 2)) (k : G q d x mc ms oc al cs ss (pc + 2) (a0 :: a1 :: a2 :: a3 :: some (.int v) :: tl) (.int v :: st) M) : G q d x mc ms oc al cs ss pc (a0 :: a1 :: a2 :: a3 :: some (.int v) :: tl) st M := by
  intro p l e R s m args below meth c H locs Q D nx nz ad ca A ls C hd hP hS hal hl
  obtain ⟨hx, hb, hml, hr, hown, hts, hK, hE, hA, hJ, hAd, hlk, hst, hRm, hmd⟩ := id C
  exact lv_iload hx hb h0 (hl.get 4 rfl) (k p l e R s m args below meth c H locs Q D nx nz ad ca A ls C hd hP hS hal hl)
theorem r_iload5 {a0 a1 a2 a3 a4 : Option Value} {tl : List (Option Value)} {v : Int32} (h0 : dec q pc = .ok (.iload 5, 2)) (k : G q d x mc ms oc al cs ss (pc + 2) (a0 :: a1 :: a2 :: a3 :: a4 :: some (.int v) :: tl) (.int v :: st) M) : G q d x mc ms oc al cs ss pc (a0 :: a1 :: a2 :: a3 :: a4 :: some (.int v) :: tl) st M := by
  intro p l e R s m args below meth c H locs Q D nx nz ad ca A ls C hd hP hS hal hl
  obtain ⟨hx, hb, hml, hr, hown, hts, hK, hE, hA, hJ, hAd, hlk, hst, hRm, hmd⟩ := id C
  exact lv_iload hx hb h0 (hl.get 5 rfl) (k p l e R s m args below meth c H locs Q D nx nz ad ca A ls C hd hP hS hal hl)
theorem r_iload6 {a0 a1 a2 a3 a4 a5 : Option Value} {tl : List (Option Value)} {v : Int32} (h0 : dec q pc = .ok (.iload 6, 2)) (k : G q d x mc ms oc al cs ss (pc + 2) (a0 :: a1 :: a2 :: a3 :: a4 :: a5 :: some (.int v) :: tl) (.int v :: st) M) : G q d x mc ms oc al cs ss pc (a0 :: a1 :: a2 :: a3 :: a4 :: a5 :: some (.int v) :: tl) st M := by
  intro p l e R s m args below meth c H locs Q D nx nz ad ca A ls C hd hP hS hal hl
  obtain ⟨hx, hb, hml, hr, hown, hts, hK, hE, hA, hJ, hAd, hlk, hst, hRm, hmd⟩ := id C
  exact lv_iload hx hb h0 (hl.get 6 rfl) (k p l e R s m args below meth c H locs Q D nx nz ad ca A ls C hd hP hS hal hl)
theorem r_iload7 {a0 a1 a2 a3 a4 a5 a6 : Option Value} {tl : List (Option Value)} {v : Int32} (h0 : dec q pc = .ok (.iload 7, 2)) (k : G q d x mc ms oc al cs ss (pc + 2) (a0 :: a1 :: a2 :: a3 :: a4 :: a5 :: a6 :: some (.int v) :: tl) (.int v :: st) M) : G q d x mc ms oc al cs ss pc (a0 :: a1 :: a2 :: a3 :: a4 :: a5 :: a6 :: some (.int v) :: tl) st M := by
  intro p l e R s m args below meth c H locs Q D nx nz ad ca A ls C hd hP hS hal hl
  obtain ⟨hx, hb, hml, hr, hown, hts, hK, hE, hA, hJ, hAd, hlk, hst, hRm, hmd⟩ := id C
  exact lv_iload hx hb h0 (hl.get 7 rfl) (k p l e R s m args below meth c H locs Q D nx nz ad ca A ls C hd hP hS hal hl)
theorem r_iload8 {a0 a1 a2 a3 a4 a5 a6 a7 : Option Value} {tl : List (Option Value)} {v : Int32} (h0 : dec q pc = .ok (.iload 8, 2)) (k : G q d x mc ms oc al cs ss (pc + 2) (a0 :: a1 :: a2 :: a3 :: a4 :: a5 :: a6 :: a7 :: some (.int v) :: tl) (.int v :: st) M) : G q d x mc ms oc al cs ss pc (a0 :: a1 :: a2 :: a3 :: a4 :: a5 :: a6 :: a7 :: some (.int v) :: tl) st M := by
  intro p l e R s m args below meth c H locs Q D nx nz ad ca A ls C hd hP hS hal hl
  obtain ⟨hx, hb, hml, hr, hown, hts, hK, hE, hA, hJ, hAd, hlk, hst, hRm, hmd⟩ := id C
  exact lv_iload hx hb h0 (hl.get 8 rfl) (k p l e R s m args below meth c H locs Q D nx nz ad ca A ls C hd hP hS hal hl)
theorem r_iload9 {a0 a1 a2 a3 a4 a5 a6 a7 a8 : Option Value} {tl : List (Option Value)} {v : Int32} (h0 : dec q pc = .ok (.iload 9, 2)) (k : G q d x mc ms oc al cs ss (pc + 2) (a0 :: a1 :: a2 :: a3 :: a4 :: a5 :: a6 :: a7 :: a8 :: some (.int v) :: tl) (.int v :: st) M) : G q d x mc ms oc al cs ss pc (a0 :: a1 :: a2 :: a3 :: a4 :: a5 :: a6 :: a7 :: a8 :: some (.int v) :: tl) st M := by
  intro p l e R s m args below meth c H locs Q D nx nz ad ca A ls C hd hP hS hal hl
  obtain ⟨hx, hb, hml, hr, hown, hts, hK, hE, hA, hJ, hAd, hlk, hst, hRm, hmd⟩ := id C
  exact lv_iload hx hb h0 (hl.get 9 rfl) (k p l e R s m args below meth c H locs Q D nx nz ad ca A ls C hd hP hS hal hl)
theorem r_iload10 {a0 a1 a2 a3 a4 a5 a6 a7 a8 a9 : Option Value} {tl : List (Option Value)} {v : Int32} (h0 : dec q pc = .ok (.iload 10, 2)) (k : G q d x mc ms oc al cs ss (pc + 2) (a0 :: a1 :: a2 :: a3 :: a4 :: a5 :: a6 :: a7 :: a8 :: a9 :: some (.int v) :: tl) (.int v :: st) M) : G q d x mc ms oc al cs ss pc (a0 :: a1 :: a2 :: a3 :: a4 :: a5 :: a6 :: a7 :: a8 :: a9 :: some (.int v) :: tl) st M := by
  intro p l e R s m args below meth c H locs Q D nx nz ad ca A ls C hd hP hS hal hl
  obtain ⟨hx, hb, hml, hr, hown, hts, hK, hE, hA, hJ, hAd, hlk, hst, hRm, hmd⟩ := id C
  exact lv_iload hx hb h0 (hl.get 10 rfl) (k p l e R s m args below meth c H locs Q D nx nz ad ca A ls C hd hP hS hal hl)
theorem r_iload11 {a0 a1 a2 a3 a4 a5 a6 a7 a8 a9 a10 : Option Value} {tl : List (Option Value)} {v : Int32} (h0 : dec q pc = .ok (.iload 11, 2)) (k : G q d x mc ms oc al cs ss (pc + 2) (a0 :: a1 :: a2 :: a3 :: a4 :: a5 :: a6 :: a7 :: a8 :: a9 :: a10 :: some (.int v) :: tl) (.int v :: st) M) : G q d x mc ms oc al cs ss pc (a0 :: a1 :: a2 :: a3 :: a4 :: a5 :: a6 :: a7 :: a8 :: a9 :: a10 :: some (.int v) :: tl) st M := by
  intro p l e R s m args below meth c H locs Q D nx nz ad ca A ls C hd hP hS hal hl
  obtain ⟨hx, hb, hml, hr, hown, hts, hK, hE, hA, hJ, hAd, hlk, hst, hRm, hmd⟩ := id C
  exact lv_iload hx hb h0 (hl.get 11 rfl) (k p l e R s m args below meth c H locs Q D nx nz ad ca A ls C hd hP hS hal hl)
theorem r_iload12 {a0 a1 a2 a3 a4 a5 a6 a7 a8 a9 a10 a11 : Option Value} {tl : List (Option Value)} {v : Int32} (h0 : dec q pc = .ok (.iload 12, 2)) (k : G q d x mc ms oc al cs ss (pc + 2) (a0 :: a1 :: a2 :: a3 :: a4 :: a5 :: a6 :: a7 :: a8 :: a9 :: a10 :: a11 :: some (.int v) :: tl) (.int v :: st) M) : G q d x mc ms oc al cs ss pc (a0 :: a1 :: a2 :: a3 :: a4 :: a5 :: a6 :: a7 :: a8 :: a9 :: a10 :: a11 :: some (.int v) :: tl) st M := by
  intro p l e R s m args below meth c H locs Q D nx nz ad ca A ls C hd hP hS hal hl
  obtain ⟨hx, hb, hml, hr, hown, hts, hK, hE, hA, hJ, hAd, hlk, hst, hRm, hmd⟩ := id C
  exact lv_iload hx hb h0 (hl.get 12 rfl) (k p l e R s m args below meth c H locs Q D nx nz ad ca A ls C hd hP hS hal hl)
theorem r_iload13 {a0 a1 a2 a3 a4 a5 a6 a7 a8 a9 a10 a11 a12 : Option Value} {tl : List (Option Value)} {v : Int32} (h0 : dec q pc = .ok (.iload 13, 2)) (k : G q d x mc ms oc al cs ss (pc + 2) (a0 :: a1 :: a2 :: a3 :: a4 :: a5 :: a6 :: a7 :: a8 :: a9 :: a10 :: a11 :: a12 :: some (.int v) :: tl) (.int v :: st) M) : G q d x mc ms oc al cs ss pc (a0 :: a1 :: a2 :: a3 :: a4 :: a5 :: a6 :: a7 :: a8 :: a9 :: a10 :: a11 :: a12 :: some (.int v) :: tl) st M := by
  intro p l e R s m args below meth c H locs Q D nx nz ad ca A ls C hd hP hS hal hl
  obtain ⟨hx, hb, hml, hr, hown, hts, hK, hE, hA, hJ, hAd, hlk, hst, hRm, hmd⟩ := id C
  exact lv_iload hx hb h0 (hl.get 13 rfl) (k p l e R s m args below meth c H locs Q D nx nz ad ca A ls C hd hP hS hal hl)
theorem r_iload14 {a0 a1 a2 a3 a4 a5 a6 a7 a8 a9 a10 a11 a12 a13 : Option Value} {tl : List (Option Value)} {v : Int32} (h0 : dec q pc = .ok (.iload 14, 2)) (k : G q d x mc ms oc al cs ss (pc + 2) (a0 :: a1 :: a2 :: a3 :: a4 :: a5 :: a6 :: a7 :: a8 :: a9 :: a10 :: a11 :: a12 :: a13 :: some (.int v) :: tl) (.int v :: st) M) : G q d x mc ms oc al cs ss pc (a0 :: a1 :: a2 :: a3 :: a4 :: a5 :: a6 :: a7 :: a8 :: a9 :: a10 :: a11 :: a12 :: a13 :: some (.int v) :: tl) st M := by
  intro p l e R s m args below meth c H locs Q D nx nz ad ca A ls C hd hP hS hal hl
  obtain ⟨hx, hb, hml, hr, hown, hts, hK, hE, hA, hJ, hAd, hlk, hst, hRm, hmd⟩ := id C
  exact lv_iload hx hb h0 (hl.get 14 rfl) (k p l e R s m args below meth c H locs Q D nx nz ad ca A ls C hd hP hS hal hl)
theorem r_iload15 {a0 a1 a2 a3 a4 a5 a6 a7 a8 a9 a10 a11 a12 a13 a14 : Option Value} {tl : List (Option Value)} {v : Int32} (h0 : dec q pc = .ok (.iload 15, 2)) (k : G q d x mc ms oc al cs ss (pc + 2) (a0 :: a1 :: a2 :: a3 :: a4 :: a5 :: a6 :: a7 :: a8 :: a9 :: a10 :: a11 :: a12 :: a13 :: a14 :: some (.int v) :: tl) (.int v :: st) M) : G q d x mc ms oc al cs ss pc (a0 :: a1 :: a2 :: a3 :: a4 :: a5 :: a6 :: a7 :: a8 :: a9 :: a10 :: a11 :: a12 :: a13 :: a14 :: some (.int v) :: tl) st M := by
  intro p l e R s m args below meth c H locs Q D nx nz ad ca A ls C hd hP hS hal hl
  obtain ⟨hx, hb, hml, hr, hown, hts, hK, hE, hA, hJ, hAd, hlk, hst, hRm, hmd⟩ := id C
  exact lv_iload hx hb h0 (hl.get 15 rfl) (k p l e R s m args below meth c H locs Q D nx nz ad ca A ls C hd hP hS hal hl)
theorem r_iload16 {a0 a1 a2 a3 a4 a5 a6 a7 a8 a9 a10 a11 a12 a13 a14 a15 : Option Value} {tl : List (Option Value)} {v : Int32} (h0 : dec q pc = .ok (.iload 16, 2)) (k : G q d x mc ms oc al cs ss (pc + 2) (a0 :: a1 :: a2 :: a3 :: a4 :: a5 :: a6 :: a7 :: a8 :: a9 :: a10 :: a11 :: a12 :: a13 :: a14 :: a15 :: some (.int v) :: tl) (.int v :: st) M) : G q d x mc ms oc al cs ss pc (a0 :: a1 :: a2 :: a3 :: a4 :: a5 :: a6 :: a7 :: a8 :: a9 :: a10 :: a11 :: a12 :: a13 :: a14 :: a15 :: some (.int v) :: tl) st M := by
  intro p l e R s m args below meth c H locs Q D nx nz ad ca A ls C hd hP hS hal hl
  obtain ⟨hx, hb, hml, hr, hown, hts, hK, hE, hA, hJ, hAd, hlk, hst, hRm, hmd⟩ := id C
  exact lv_iload hx hb h0 (hl.get 16 rfl) (k p l e R s m args below meth c H locs Q D nx nz ad ca A ls C hd hP hS hal hl)
theorem r_iload17 {a0 a1 a2 a3 a4 a5 a6 a7 a8 a9 a10 a11 a12 a13 a14 a15 a16 : Option Value} {tl : List (Option Value)} {v : Int32} (h0 : dec q pc = .ok (.iload 17, 2)) (k : G q d x mc ms oc al cs ss (pc + 2) (a0 :: a1 :: a2 :: a3 :: a4 :: a5 :: a6 :: a7 :: a8 :: a9 :: a10 :: a11 :: a12 :: a13 :: a14 :: a15 :: a16 :: some (.int v) :: tl) (.int v :: st) M) : G q d x mc ms oc al cs ss pc (a0 :: a1 :: a2 :: a3 :: a4 :: a5 :: a6 :: a7 :: a8 :: a9 :: a10 :: a11 :: a12 :: a13 :: a14 :: a15 :: a16 :: some (.int v) :: tl) st M := by
  intro p l e R s m args below meth c H locs Q D nx nz ad ca A ls C hd hP hS hal hl
  obtain ⟨hx, hb, hml, hr, hown, hts, hK, hE, hA, hJ, hAd, hlk, hst, hRm, hmd⟩ := id C
  exact lv_iload hx hb h0 (hl.get 17 rfl) (k p l e R s m args below meth c H locs Q D nx nz ad ca A ls C hd hP hS hal hl)
theorem r_iload18 {a0 a1 a2 a3 a4 a5 a6 a7 a8 a9 a10 a11 a12 a13 a14 a15 a16 a17 : Option Value} {tl : List (Option Value)} {v : Int32} (h0 : dec q pc = .ok (.iload 18, 2)) (k : G q d x mc ms oc al cs ss (pc + 2) (a0 :: a1 :: a2 :: a3 :: a4 :: a5 :: a6 :: a7 :: a8 :: a9 :: a10 :: a11 :: a12 :: a13 :: a14 :: a15 :: a16 :: a17 :: some (.int v) :: tl) (.int v :: st) M) : G q d x mc ms oc al cs ss pc (a0 :: a1 :: a2 :: a3 :: a4 :: a5 :: a6 :: a7 :: a8 :: a9 :: a10 :: a11 :: a12 :: a13 :: a14 :: a15 :: a16 :: a17 :: some (.int v) :: tl) st M := by
  intro p l e R s m args below meth c H locs Q D nx nz ad ca A ls C hd hP hS hal hl
  obtain ⟨hx, hb, hml, hr, hown, hts, hK, hE, hA, hJ, hAd, hlk, hst, hRm, hmd⟩ := id C
  exact lv_iload hx hb h0 (hl.get 18 rfl) (k p l e R s m args below meth c H locs Q D nx nz ad ca A ls C hd hP hS hal hl)
theorem r_iload19 {a0 a1 a2 a3 a4 a5 a6 a7 a8 a9 a10 a11 a12 a13 a14 a15 a16 a17 a18 : Option Value} {tl : List (Option Value)} {v : Int32} (h0 : dec q pc = .ok (.iload 19, 2)) (k : G q d x mc ms oc al cs ss (pc + 2) (a0 :: a1 :: a2 :: a3 :: a4 :: a5 :: a6 :: a7 :: a8 :: a9 :: a10 :: a11 :: a12 :: a13 :: a14 :: a15 :: a16 :: a17 :: a18 :: some (.int v) :: tl) (.int v :: st) M) : G q d x mc ms oc al cs ss pc (a0 :: a1 :: a2 :: a3 :: a4 :: a5 :: a6 :: a7 :: a8 :: a9 :: a10 :: a11 :: a12 :: a13 :: a14 :: a15 :: a16 :: a17 :: a18 :: some (.int v) :: tl) st M := by
  intro p l e R s m args below meth c H locs Q D nx nz ad ca A ls C hd hP hS hal hl
  obtain ⟨hx, hb, hml, hr, hown, hts, hK, hE, hA, hJ, hAd, hlk, hst, hRm, hmd⟩ := id C
  exact lv_iload hx hb h0 (hl.get 19 rfl) (k p l e R s m args below meth c H locs Q D nx nz ad ca A ls C hd hP hS hal hl)
theorem r_iload20 {a0 a1 a2 a3 a4 a5 a6 a7 a8 a9 a10 a11 a12 a13 a14 a15 a16 a17 a18 a19 : Option Value} {tl : List (Option Value)} {v : Int32} (h0 : dec q pc = .ok (.iload 20, 2)) (k : G q d x mc ms oc al cs ss (pc + 2) (a0 :: a1 :: a2 :: a3 :: a4 :: a5 :: a6 :: a7 :: a8 :: a9 :: a10 :: a11 :: a12 :: a13 :: a14 :: a15 :: a16 :: a17 :: a18 :: a19 :: some (.int v) :: tl) (.int v :: st) M) : G q d x mc ms oc al cs ss pc (a0 :: a1 :: a2 :: a3 :: a4 :: a5 :: a6 :: a7 :: a8 :: a9 :: a10 :: a11 :: a12 :: a13 :: a14 :: a15 :: a16 :: a17 :: a18 :: a19 :: some (.int v) :: tl) st M := by
  intro p l e R s m args below meth c H locs Q D nx nz ad ca A ls C hd hP hS hal hl
  obtain ⟨hx, hb, hml, hr, hown, hts, hK, hE, hA, hJ, hAd, hlk, hst, hRm, hmd⟩ := id C
  exact lv_iload hx hb h0 (hl.get 20 rfl) (k p l e R s m args below meth c H locs Q D nx nz ad ca A ls C hd hP hS hal hl)
theorem r_iload21 {a0 a1 a2 a3 a4 a5 a6 a7 a8 a9 a10 a11 a12 a13 a14 a15 a16 a17 a18 a19 a20 : Option Value} {tl : List (Option Value)} {v : Int32} (h0 : dec q pc = .ok (.iload 21, 2)) (k : G q d x mc ms oc al cs ss (pc + 2) (a0 :: a1 :: a2 :: a3 :: a4 :: a5 :: a6 :: a7 :: a8 :: a9 :: a10 :: a11 :: a12 :: a13 :: a14 :: a15 :: a16 :: a17 :: a18 :: a19 :: a20 :: some (.int v) :: tl) (.int v :: st) M) : G q d x mc ms oc al cs ss pc (a0 :: a1 :: a2 :: a3 :: a4 :: a5 :: a6 :: a7 :: a8 :: a9 :: a10 :: a11 :: a12 :: a13 :: a14 :: a15 :: a16 :: a17 :: a18 :: a19 :: a20 :: some (.int v) :: tl) st M := by
  intro p l e R s m args below meth c H locs Q D nx nz ad ca A ls C hd hP hS hal hl
  obtain ⟨hx, hb, hml, hr, hown, hts, hK, hE, hA, hJ, hAd, hlk, hst, hRm, hmd⟩ := id C
  exact lv_iload hx hb h0 (hl.get 21 rfl) (k p l e R s m args below meth c H locs Q D nx nz ad ca A ls C hd hP hS hal hl)
theorem r_iload22 {a0 a1 a2 a3 a4 a5 a6 a7 a8 a9 a10 a11 a12 a13 a14 a15 a16 a17 a18 a19 a20 a21 : Option Value} {tl : List (Option Value)} {v : Int32} (h0 : dec q pc = .ok (.iload 22, 2)) (k : G q d x mc ms oc al cs ss (pc + 2) (a0 :: a1 :: a2 :: a3 :: a4 :: a5 :: a6 :: a7 :: a8 :: a9 :: a10 :: a11 :: a12 :: a13 :: a14 :: a15 :: a16 :: a17 :: a18 :: a19 :: a20 :: a21 :: some (.int v) :: tl) (.int v :: st) M) : G q d x mc ms oc al cs ss pc (a0 :: a1 :: a2 :: a3 :: a4 :: a5 :: a6 :: a7 :: a8 :: a9 :: a10 :: a11 :: a12 :: a13 :: a14 :: a15 :: a16 :: a17 :: a18 :: a19 :: a20 :: a21 :: some (.int v) :: tl) st M := by
  intro p l e R s m args below meth c H locs Q D nx nz ad ca A ls C hd hP hS hal hl
  obtain ⟨hx, hb, hml, hr, hown, hts, hK, hE, hA, hJ, hAd, hlk, hst, hRm, hmd⟩ := id C
  exact lv_iload hx hb h0 (hl.get 22 rfl) (k p l e R s m args below meth c H locs Q D nx nz ad ca A ls C hd hP hS hal hl)
theorem r_iload23 {a0 a1 a2 a3 a4 a5 a6 a7 a8 a9 a10 a11 a12 a13 a14 a15 a16 a17 a18 a19 a20 a21 a22 : Option Value} {tl : List (Option Value)} {v : Int32} (h0 : dec q pc = .ok (.iload 23, 2)) (k : G q d x mc ms oc al cs ss (pc + 2) (a0 :: a1 :: a2 :: a3 :: a4 :: a5 :: a6 :: a7 :: a8 :: a9 :: a10 :: a11 :: a12 :: a13 :: a14 :: a15 :: a16 :: a17 :: a18 :: a19 :: a20 :: a21 :: a22 :: some (.int v) :: tl) (.int v :: st) M) : G q d x mc ms oc al cs ss pc (a0 :: a1 :: a2 :: a3 :: a4 :: a5 :: a6 :: a7 :: a8 :: a9 :: a10 :: a11 :: a12 :: a13 :: a14 :: a15 :: a16 :: a17 :: a18 :: a19 :: a20 :: a21 :: a22 :: some (.int v) :: tl) st M := by
  intro p l e R s m args below meth c H locs Q D nx nz ad ca A ls C hd hP hS hal hl
  obtain ⟨hx, hb, hml, hr, hown, hts, hK, hE, hA, hJ, hAd, hlk, hst, hRm, hmd⟩ := id C
  exact lv_iload hx hb h0 (hl.get 23 rfl) (k p l e R s m args below meth c H locs Q D nx nz ad ca A ls C hd hP hS hal hl)
theorem r_lload0 {tl : List (Option Value)} {v : Int64} (h0 : dec q pc = .ok (.lload_n 0, 1)) (k : G q d x mc ms oc al cs ss (pc + 1) (some (.long v) :: tl) (.long v :: st) M) : G q d x mc ms oc al cs ss pc (some (.long v) :: tl) st M := by
  intro p l e R s m args below meth c H locs Q D nx nz ad ca A ls C hd hP hS hal hl
  obtain ⟨hx, hb, hml, hr, hown, hts, hK, hE, hA, hJ, hAd, hlk, hst, hRm, hmd⟩ := id C
  exact lv_lload_n hx hb h0 rfl (hl.get 0 rfl) (k p l e R s m args below meth c H locs Q D nx nz ad ca A ls C hd hP hS hal hl)
theorem r_lload1 {a0 : Option Value} {tl : List (Option Value)} {v : Int64} (h0 : dec q pc = .ok (.lload_n 1, 1)) (k : G q d x mc ms oc al cs ss (pc + 1) (a0 :: some (.long v) :: tl) (.long v :: st) M) : G q d x mc ms oc al cs ss pc (a0 :: some (.long v) :: tl) st M := by
  intro p l e R s m args below meth c H locs Q D nx nz ad ca A ls C hd hP hS hal hl
  obtain ⟨hx, hb, hml, hr, hown, hts, hK, hE, hA, hJ, hAd, hlk, hst, hRm, hmd⟩ := id C
  exact lv_lload_n hx hb h0 rfl (hl.get 1 rfl) (k p l e R s m args below meth c H locs Q D nx nz ad ca A ls C hd hP hS hal hl)
theorem r_lload2 {a0 a1 : Option Value} {tl : List (Option Value)} {v : Int64} (h0 : dec q pc = .ok (.lload_n 2, 1)) (k : G q d x mc ms oc al cs ss (pc + 1) (a0 :: a1 :: some (.long v) :: tl) (.long v :: st) M) : G q d x mc ms oc al cs ss pc (a0 :: a1 :: some (.long v) :: tl) st M := by
  intro p l e R s m args below meth c H locs Q D nx nz ad ca A ls C hd hP hS hal hl
  obtain ⟨hx, hb, hml, hr, hown, hts, hK, hE, hA, hJ, hAd, hlk, hst, hRm, hmd⟩ := id C
  exact lv_lload_n hx hb h0 rfl (hl.get 2 rfl) (k p l e R s m args below meth c H locs Q D nx nz ad ca A ls C hd hP hS hal hl)
theorem r_lload3 {a0 a1 a2 : Option Value} {tl : List (Option Value)} {v : Int64} (h0 : dec q pc = .ok (.lload_n 3, 1)) (k : G q d x mc ms oc al cs ss (pc + 1) (a0 :: a1 :: a2 :: some (.long v) :: tl) (.long v :: st) M) : G q d x mc ms oc al cs ss pc (a0 :: a1 :: a2 :: some (.long v) :: tl) st M := by
  intro p l e R s m args below meth c H locs Q D nx nz ad ca A ls C hd hP hS hal hl
  obtain ⟨hx, hb, hml, hr, hown, hts, hK, hE, hA, hJ, hAd, hlk, hst, hRm, hmd⟩ := id C
  exact lv_lload_n hx hb h0 rfl (hl.get 3 rfl) (k p l e R s m args below meth c H locs Q D nx nz ad ca A ls C hd hP hS hal hl)
theorem r_lload4 {a0 a1 a2 a3 : Option Value} {tl : List (Option Value)} {v : Int64} (h0 : dec q pc = .ok (.lload 4, 2)) (k : G q d x mc ms oc al cs ss (pc + 2) (a0 :: a1 :: a2 :: a3 :: some (.long v) :: tl) (.long v :: st) M) : G q d x mc ms oc al cs ss pc (a0 :: a1 :: a2 :: a3 :: some (.long v) :: tl) st M := by
  intro p l e R s m args below meth c H locs Q D nx nz ad ca A ls C hd hP hS hal hl
  obtain ⟨hx, hb, hml, hr, hown, hts, hK, hE, hA, hJ, hAd, hlk, hst, hRm, hmd⟩ := id C
  exact lv_lload hx hb h0 (hl.get 4 rfl) (k p l e R s m args below meth c H locs Q D nx nz ad ca A ls C hd hP hS hal hl)
theorem r_lload5 {a0 a1 a2 a3 a4 : Option Value} {tl : List (Option Value)} {v : Int64} (h0 : dec q pc = .ok (.lload 5, 2)) (k : G q d x mc ms oc al cs ss (pc + 2) (a0 :: a1 :: a2 :: a3 :: a4 :: some (.long v) :: tl) (.long v :: st) M) : G q d x mc ms oc al cs ss pc (a0 :: a1 :: a2 :: a3 :: a4 :: some (.long v) :: tl) st M := by
  intro p l e R s m args below meth c H locs Q D nx nz ad ca A ls C hd hP hS hal hl
  obtain ⟨hx, hb, hml, hr, hown, hts, hK, hE, hA, hJ, hAd, hlk, hst, hRm, hmd⟩ := id C
  exact lv_lload hx hb h0 (hl.get 5 rfl) (k p l e R s m args below meth c H locs Q D nx nz ad ca A ls C hd hP hS hal hl)
theorem r_lload6 {a0 a1 a2 a3 a4 a5 : Option Value} {tl : List (Option Value)} {v : Int64} (h0 : dec q pc = .ok (.lload 6, 2)) (k : G q d x mc ms oc al cs ss (pc + 2) (a0 :: a1 :: a2 :: a3 :: a4 :: a5 :: some (.long v) :: tl) (.long v :: st) M) : G q d x mc ms oc al cs ss pc (a0 :: a1 :: a2 :: a3 :: a4 :: a5 :: some (.long v) :: tl) st M := by
  intro p l e R s m args below meth c H locs Q D nx nz ad ca A ls C hd hP hS hal hl
  obtain ⟨hx, hb, hml, hr, hown, hts, hK, hE, hA, hJ, hAd, hlk, hst, hRm, hmd⟩ := id C
  exact lv_lload hx hb h0 (hl.get 6 rfl) (k p l e R s m args below meth c H locs Q D nx nz ad ca A ls C hd hP hS hal hl)
theorem r_lload7 {a0 a1 a2 a3 a4 a5 a6 : Option Value} {tl : List (Option Value)} {v : Int64} (h0 : dec q pc = .ok (.lload 7, 2)) (k : G q d x mc ms oc al cs ss (pc + 2) (a0 :: a1 :: a2 :: a3 :: a4 :: a5 :: a6 :: some (.long v) :: tl) (.long v :: st) M) : G q d x mc ms oc al cs ss pc (a0 :: a1 :: a2 :: a3 :: a4 :: a5 :: a6 :: some (.long v) :: tl) st M := by
  intro p l e R s m args below meth c H locs Q D nx nz ad ca A ls C hd hP hS hal hl
  obtain ⟨hx, hb, hml, hr, hown, hts, hK, hE, hA, hJ, hAd, hlk, hst, hRm, hmd⟩ := id C
  exact lv_lload hx hb h0 (hl.get 7 rfl) (k p l e R s m args below meth c H locs Q D nx nz ad ca A ls C hd hP hS hal hl)
theorem r_lload8 {a0 a1 a2 a3 a4 a5 a6 a7 : Option Value} {tl : List (Option Value)} {v : Int64} (h0 : dec q pc = .ok (.lload 8, 2)) (k : G q d x mc ms oc al cs ss (pc + 2) (a0 :: a1 :: a2 :: a3 :: a4 :: a5 :: a6 :: a7 :: some (.long v) :: tl) (.long v :: st) M) : G q d x mc ms oc al cs ss pc (a0 :: a1 :: a2 :: a3 :: a4 :: a5 :: a6 :: a7 :: some (.long v) :: tl) st M := by
  intro p l e R s m args below meth c H locs Q D nx nz ad ca A ls C hd hP hS hal hl
  obtain ⟨hx, hb, hml, hr, hown, hts, hK, hE, hA, hJ, hAd, hlk, hst, hRm, hmd⟩ := id C
  exact lv_lload hx hb h0 (hl.get 8 rfl) (k p l e R s m args below meth c H locs Q D nx nz ad ca A ls C hd hP hS hal hl)
theorem r_lload9 {a0 a1 a2 a3 a4 a5 a6 a7 a8 : Option Value} {tl : List (Option Value)} {v : Int64} (h0 : dec q pc = .ok (.lload 9, 2)) (k : G q d x mc ms oc al cs ss (pc + 2) (a0 :: a1 :: a2 :: a3 :: a4 :: a5 :: a6 :: a7 :: a8 :: some (.long v) :: tl) (.long v :: st) M) : G q d x mc ms oc al cs ss pc (a0 :: a1 :: a2 :: a3 :: a4 :: a5 :: a6 :: a7 :: a8 :: some (.long v) :: tl) st M := by
  intro p l e R s m args below meth c H locs Q D nx nz ad ca A ls C hd hP hS hal hl
  obtain ⟨hx, hb, hml, hr, hown, hts, hK, hE, hA, hJ, hAd, hlk, hst, hRm, hmd⟩ := id C
  exact lv_lload hx hb h0 (hl.get 9 rfl) (k p l e R s m args below meth c H locs Q D nx nz ad ca A ls C hd hP hS hal hl)
theorem r_lload10 {a0 a1 a2 a3 a4 a5 a6 a7 a8 a9 : Option Value} {tl : List (Option Value)} {v : Int64} (h0 : dec q pc = .ok (.lload 10, 2)) (k : G q d x mc ms oc al cs ss (pc + 2) (a0 :: a1 :: a2 :: a3 :: a4 :: a5 :: a6 :: a7 :: a8 :: a9 :: some (.long v) :: tl) (.long v :: st) M) : G q d x mc ms oc al cs ss pc (a0 :: a1 :: a2 :: a3 :: a4 :: a5 :: a6 :: a7 :: a8 :: a9 :: some (.long v) :: tl) st M := by
  intro p l e R s m args below meth c H locs Q D nx nz ad ca A ls C hd hP hS hal hl
  obtain ⟨hx, hb, hml, hr, hown, hts, hK, hE, hA, hJ, hAd, hlk, hst, hRm, hmd⟩ := id C
  exact lv_lload hx hb h0 (hl.get 10 rfl) (k p l e R s m args below meth c H locs Q D nx nz ad ca A ls C hd hP hS hal hl)
theorem r_lload11 {a0 a1 a2 a3 a4 a5 a6 a7 a8 a9 a10 : Option Value} {tl : List (Option Value)} {v : Int64} (h0 : dec q pc = .ok (.lload 11, 2)) (k : G q d x mc ms oc al cs ss (pc + 2) (a0 :: a1 :: a2 :: a3 :: a4 :: a5 :: a6 :: a7 :: a8 :: a9 :: a10 :: some (.long v) :: tl) (.long v :: st) M) : G q d x mc ms oc al cs ss pc (a0 :: a1 :: a2 :: a3 :: a4 :: a5 :: a6 :: a7 :: a8 :: a9 :: a10 :: some (.long v) :: tl) st M := by
  intro p l e R s m args below meth c H locs Q D nx nz ad ca A ls C hd hP hS hal hl
  obtain ⟨hx, hb, hml, hr, hown, hts, hK, hE, hA, hJ, hAd, hlk, hst, hRm, hmd⟩ := id C
  exact lv_lload hx hb h0 (hl.get 11 rfl) (k p l e R s m args below meth c H locs Q D nx nz ad ca A ls C hd hP hS hal hl)
theorem r_lload12 {a0 a1 a2 a3 a4 a5 a6 a7 a8 a9 a10 a11 : Option Value} {tl : List (Option Value)} {v : Int64} (h0 : dec q pc = .ok (.lload 12, 2)) (k : G q d x mc ms oc al cs ss (pc + 2) (a0 :: a1 :: a2 :: a3 :: a4 :: a5 :: a6 :: a7 :: a8 :: a9 :: a10 :: a11 :: some (.long v) :: tl) (.long v :: st) M) : G q d x mc ms oc al cs ss pc (a0 :: a1 :: a2 :: a3 :: a4 :: a5 :: a6 :: a7 :: a8 :: a9 :: a10 :: a11 :: some (.long v) :: tl) st M := by
  intro p l e R s m args below meth c H locs Q D nx nz ad ca A ls C hd hP hS hal hl
  obtain ⟨hx, hb, hml, hr, hown, hts, hK, hE, hA, hJ, hAd, hlk, hst, hRm, hmd⟩ := id C
  exact lv_lload hx hb h0 (hl.get 12 rfl) (k p l e R s m args below meth c H locs Q D nx nz ad ca A ls C hd hP hS hal hl)
theorem r_lload13 {a0 a1 a2 a3 a4 a5 a6 a7 a8 a9 a10 a11 a12 : Option Value} {tl : List (Option Value)} {v : Int64} (h0 : dec q pc = .ok (.lload 13, 2)) (k : G q d x mc ms oc al cs ss (pc + 2) (a0 :: a1 :: a2 :: a3 :: a4 :: a5 :: a6 :: a7 :: a8 :: a9 :: a10 :: a11 :: a12 :: some (.long v) :: tl) (.long v :: st) M) : G q d x mc ms oc al cs ss pc (a0 :: a1 :: a2 :: a3 :: a4 :: a5 :: a6 :: a7 :: a8 :: a9 :: a10 :: a11 :: a12 :: some (.long v) :: tl) st M := by
  intro p l e R s m args below meth c H locs Q D nx nz ad ca A ls C hd hP hS hal hl
  obtain ⟨hx, hb, hml, hr, hown, hts, hK, hE, hA, hJ, hAd, hlk, hst, hRm, hmd⟩ := id C
  exact lv_lload hx hb h0 (hl.get 13 rfl) (k p l e R s m args below meth c H locs Q D nx nz ad ca A ls C hd hP hS hal hl)
theorem r_lload14 {a0 a1 a2 a3 a4 a5 a6 a7 a8 a9 a10 a11 a12 a13 : Option Value} {tl : List (Option Value)} {v : Int64} (h0 : dec q pc = .ok (.lload 14, 2)) (k : G q d x mc ms oc al cs ss (pc + 2) (a0 :: a1 :: a2 :: a3 :: a4 :: a5 :: a6 :: a7 :: a8 :: a9 :: a10 :: a11 :: a12 :: a13 :: some (.long v) :: tl) (.long v :: st) M) : G q d x mc ms oc al cs ss pc (a0 :: a1 :: a2 :: a3 :: a4 :: a5 :: a6 :: a7 :: a8 :: a9 :: a10 :: a11 :: a12 :: a13 :: some (.long v) :: tl) st M := by
  intro p l e R s m args below meth c H locs Q D nx nz ad ca A ls C hd hP hS hal hl
  obtain ⟨hx, hb, hml, hr, hown, hts, hK, hE, hA, hJ, hAd, hlk, hst, hRm, hmd⟩ := id C
  exact lv_lload hx hb h0 (hl.get 14 rfl) (k p l e R s m args below meth c H locs Q D nx nz ad ca A ls C hd hP hS hal hl)
theorem r_lload15 {a0 a1 a2 a3 a4 a5 a6 a7 a8 a9 a10 a11 a12 a13 a14 : Option Value} {tl : List (Option Value)} {v : Int64} (h0 : dec q pc = .ok (.lload 15, 2)) (k : G q d x mc ms oc al cs ss (pc + 2) (a0 :: a1 :: a2 :: a3 :: a4 :: a5 :: a6 :: a7 :: a8 :: a9 :: a10 :: a11 :: a12 :: a13 :: a14 :: some (.long v) :: tl) (.long v :: st) M) : G q d x mc ms oc al cs ss pc (a0 :: a1 :: a2 :: a3 :: a4 :: a5 :: a6 :: a7 :: a8 :: a9 :: a10 :: a11 :: a12 :: a13 :: a14 :: some (.long v) :: tl) st M := by
  intro p l e R s m args below meth c H locs Q D nx nz ad ca A ls C hd hP hS hal hl
  obtain ⟨hx, hb, hml, hr, hown, hts, hK, hE, hA, hJ, hAd, hlk, hst, hRm, hmd⟩ := id C
  exact lv_lload hx hb h0 (hl.get 15 rfl) (k p l e R s m args below meth c H locs Q D nx nz ad ca A ls C hd hP hS hal hl)
theorem r_lload16 {a0 a1 a2 a3 a4 a5 a6 a7 a8 a9 a10 a11 a12 a13 a14 a15 : Option Value} {tl : List (Option Value)} {v : Int64} (h0 : dec q pc = .ok (.lload 16, 2)) (k : G q d x mc ms oc al cs ss (pc + 2) (a0 :: a1 :: a2 :: a3 :: a4 :: a5 :: a6 :: a7 :: a8 :: a9 :: a10 :: a11 :: a12 :: a13 :: a14 :: a15 :: some (.long v) :: tl) (.long v :: st) M) : G q d x mc ms oc al cs ss pc (a0 :: a1 :: a2 :: a3 :: a4 :: a5 :: a6 :: a7 :: a8 :: a9 :: a10 :: a11 :: a12 :: a13 :: a14 :: a15 :: some (.long v) :: tl) st M := by
  intro p l e R s m args below meth c H locs Q D nx nz ad ca A ls C hd hP hS hal hl
  obtain ⟨hx, hb, hml, hr, hown, hts, hK, hE, hA, hJ, hAd, hlk, hst, hRm, hmd⟩ := id C
  exact lv_lload hx hb h0 (hl.get 16 rfl) (k p l e R s m args below meth c H locs Q D nx nz ad ca A ls C hd hP hS hal hl)
theorem r_lload17 {a0 a1 a2 a3 a4 a5 a6 a7 a8 a9 a10 a11 a12 a13 a14 a15 a16 : Option Value} {tl : List (Option Value)} {v : Int64} (h0 : dec q pc = .ok (.lload 17, 2)) (k : G q d x mc ms oc al cs ss (pc + 2) (a0 :: a1 :: a2 :: a3 :: a4 :: a5 :: a6 :: a7 :: a8 :: a9 :: a10 :: a11 :: a12 :: a13 :: a14 :: a15 :: a16 :: some (.long v) :: tl) (.long v :: st) M) : G q d x mc ms oc al cs ss pc (a0 :: a1 :: a2 :: a3 :: a4 :: a5 :: a6 :: a7 :: a8 :: a9 :: a10 :: a11 :: a12 :: a13 :: a14 :: a15 :: a16 :: some (.long v) :: tl) st M := by
  intro p l e R s m args below meth c H locs Q D nx nz ad ca A ls C hd hP hS hal hl
  obtain ⟨hx, hb, hml, hr, hown, hts, hK, hE, hA, hJ, hAd, hlk, hst, hRm, hmd⟩ := id C
  exact lv_lload hx hb h0 (hl.get 17 rfl) (k p l e R s m args below meth c H locs Q D nx nz ad ca A ls C hd hP hS hal hl)
theorem r_lload18 {a0 a1 a2 a3 a4 a5 a6 a7 a8 a9 a10 a11 a12 a13 a14 a15 a16 a17 : Option Value} {tl : List (Option Value)} {v : Int64} (h0 : dec q pc = .ok (.lload 18, 2)) (k : G q d x mc ms oc al cs ss (pc + 2) (a0 :: a1 :: a2 :: a3 :: a4 :: a5 :: a6 :: a7 :: a8 :: a9 :: a10 :: a11 :: a12 :: a13 :: a14 :: a15 :: a16 :: a17 :: some (.long v) :: tl) (.long v :: st) M) : G q d x mc ms oc al cs ss pc (a0 :: a1 :: a2 :: a3 :: a4 :: a5 :: a6 :: a7 :: a8 :: a9 :: a10 :: a11 :: a12 :: a13 :: a14 :: a15 :: a16 :: a17 :: some (.long v) :: tl) st M := by
  intro p l e R s m args below meth c H locs Q D nx nz ad ca A ls C hd hP hS hal hl
  obtain ⟨hx, hb, hml, hr, hown, hts, hK, hE, hA, hJ, hAd, hlk, hst, hRm, hmd⟩ := id C
  exact lv_lload hx hb h0 (hl.get 18 rfl) (k p l e R s m args below meth c H locs Q D nx nz ad ca A ls C hd hP hS hal hl)
theorem r_lload19 {a0 a1 a2 a3 a4 a5 a6 a7 a8 a9 a10 a11 a12 a13 a14 a15 a16 a17 a18 : Option Value} {tl : List (Option Value)} {v : Int64} (h0 : dec q pc = .ok (.lload 19, 2)) (k : G q d x mc ms oc al cs ss (pc + 2) (a0 :: a1 :: a2 :: a3 :: a4 :: a5 :: a6 :: a7 :: a8 :: a9 :: a10 :: a11 :: a12 :: a13 :: a14 :: a15 :: a16 :: a17 :: a18 :: some (.long v) :: tl) (.long v :: st) M) : G q d x mc ms oc al cs ss pc (a0 :: a1 :: a2 :: a3 :: a4 :: a5 :: a6 :: a7 :: a8 :: a9 :: a10 :: a11 :: a12 :: a13 :: a14 :: a15 :: a16 :: a17 :: a18 :: some (.long v) :: tl) st M := by
  intro p l e R s m args below meth c H locs Q D nx nz ad ca A ls C hd hP hS hal hl
  obtain ⟨hx, hb, hml, hr, hown, hts, hK, hE, hA, hJ, hAd, hlk, hst, hRm, hmd⟩ := id C
  exact lv_lload hx hb h0 (hl.get 19 rfl) (k p l e R s m args below meth c H locs Q D nx nz ad ca A ls C hd hP hS hal hl)
theorem r_lload20 {a0 a1 a2 a3 a4 a5 a6 a7 a8 a9 a10 a11 a12 a13 a14 a15 a16 a17 a18 a19 : Option Value} {tl : List (Option Value)} {v : Int64} (h0 : dec q pc = .ok (.lload 20, 2)) (k : G q d x mc ms oc al cs ss (pc + 2) (a0 :: a1 :: a2 :: a3 :: a4 :: a5 :: a6 :: a7 :: a8 :: a9 :: a10 :: a11 :: a12 :: a13 :: a14 :: a15 :: a16 :: a17 :: a18 :: a19 :: some (.long v) :: tl) (.long v :: st) M) : G q d x mc ms oc al cs ss pc (a0 :: a1 :: a2 :: a3 :: a4 :: a5 :: a6 :: a7 :: a8 :: a9 :: a10 :: a11 :: a12 :: a13 :: a14 :: a15 :: a16 :: a17 :: a18 :: a19 :: some (.long v) :: tl) st M := by
  intro p l e R s m args below meth c H locs Q D nx nz ad ca A ls C hd hP hS hal hl
  obtain ⟨hx, hb, hml, hr, hown, hts, hK, hE, hA, hJ, hAd, hlk, hst, hRm, hmd⟩ := id C
  exact lv_lload hx hb h0 (hl.get 20 rfl) (k p l e R s m args below meth c H locs Q D nx nz ad ca A ls C hd hP hS hal hl)
theorem r_lload21 {a0 a1 a2 a3 a4 a5 a6 a7 a8 a9 a10 a11 a12 a13 a14 a15 a16 a17 a18 a19 a20 : Option Value} {tl : List (Option Value)} {v : Int64} (h0 : dec q pc = .ok (.lload 21, 2)) (k : G q d x mc ms oc al cs ss (pc + 2) (a0 :: a1 :: a2 :: a3 :: a4 :: a5 :: a6 :: a7 :: a8 :: a9 :: a10 :: a11 :: a12 :: a13 :: a14 :: a15 :: a16 :: a17 :: a18 :: a19 :: a20 :: some (.long v) :: tl) (.long v :: st) M) : G q d x mc ms oc al cs ss pc (a0 :: a1 :: a2 :: a3 :: a4 :: a5 :: a6 :: a7 :: a8 :: a9 :: a10 :: a11 :: a12 :: a13 :: a14 :: a15 :: a16 :: a17 :: a18 :: a19 :: a20 :: some (.long v) :: tl) st M := by
  intro p l e R s m args below meth c H locs Q D nx nz ad ca A ls C hd hP hS hal hl
  obtain ⟨hx, hb, hml, hr, hown, hts, hK, hE, hA, hJ, hAd, hlk, hst, hRm, hmd⟩ := id C
  exact lv_lload hx hb h0 (hl.get 21 rfl) (k p l e R s m args below meth c H locs Q D nx nz ad ca A ls C hd hP hS hal hl)
theorem r_lload22 {a0 a1 a2 a3 a4 a5 a6 a7 a8 a9 a10 a11 a12 a13 a14 a15 a16 a17 a18 a19 a20 a21 : Option Value} {tl : List (Option Value)} {v : Int64} (h0 : dec q pc = .ok (.lload 22, 2)) (k : G q d x mc ms oc al cs ss (pc + 2) (a0 :: a1 :: a2 :: a3 :: a4 :: a5 :: a6 :: a7 :: a8 :: a9 :: a10 :: a11 :: a12 :: a13 :: a14 :: a15 :: a16 :: a17 :: a18 :: a19 :: a20 :: a21 :: some (.long v) :: tl) (.long v :: st) M) : G q d x mc ms oc al cs ss pc (a0 :: a1 :: a2 :: a3 :: a4 :: a5 :: a6 :: a7 :: a8 :: a9 :: a10 :: a11 :: a12 :: a13 :: a14 :: a15 :: a16 :: a17 :: a18 :: a19 :: a20 :: a21 :: some (.long v) :: tl) st M := by
  intro p l e R s m args below meth c H locs Q D nx nz ad ca A ls C hd hP hS hal hl
  obtain ⟨hx, hb, hml, hr, hown, hts, hK, hE, hA, hJ, hAd, hlk, hst, hRm, hmd⟩ := id C
  exact lv_lload hx hb h0 (hl.get 22 rfl) (k p l e R s m args below meth c H locs Q D nx nz ad ca A ls C hd hP hS hal hl)
theorem r_lload23 {a0 a1 a2 a3 a4 a5 a6 a7 a8 a9 a10 a11 a12 a13 a14 a15 a16 a17 a18 a19 a20 a21 a22 : Option Value} {tl : List (Option Value)} {v : Int64} (h0 : dec q pc = .ok (.lload 23, 2)) (k : G q d x mc ms oc al cs ss (pc + 2) (a0 :: a1 :: a2 :: a3 :: a4 :: a5 :: a6 :: a7 :: a8 :: a9 :: a10 :: a11 :: a12 :: a13 :: a14 :: a15 :: a16 :: a17 :: a18 :: a19 :: a20 :: a21 :: a22 :: some (.long v) :: tl) (.long v :: st) M) : G q d x mc ms oc al cs ss pc (a0 :: a1 :: a2 :: a3 :: a4 :: a5 :: a6 :: a7 :: a8 :: a9 :: a10 :: a11 :: a12 :: a13 :: a14 :: a15 :: a16 :: a17 :: a18 :: a19 :: a20 :: a21 :: a22 :: some (.long v) :: tl) st M := by
  intro p l e R s m args below meth c H locs Q D nx nz ad ca A ls C hd hP hS hal hl
  obtain ⟨hx, hb, hml, hr, hown, hts, hK, hE, hA, hJ, hAd, hlk, hst, hRm, hmd⟩ := id C
  exact lv_lload hx hb h0 (hl.get 23 rfl) (k p l e R s m args below meth c H locs Q D nx nz ad ca A ls C hd hP hS hal hl)
theorem r_aload0 {tl : List (Option Value)} {v : Nat} (h0 : dec q pc = .ok (.aload_n 0, 1)) (k : G q d x mc ms oc al cs ss (pc + 1) (some (.ref v) :: tl) (.ref v :: st) M) : G q d x mc ms oc al cs ss pc (some (.ref v) :: tl) st M := by
  intro p l e R s m args below meth c H locs Q D nx nz ad ca A ls C hd hP hS hal hl
  obtain ⟨hx, hb, hml, hr, hown, hts, hK, hE, hA, hJ, hAd, hlk, hst, hRm, hmd⟩ := id C
  exact lv_aload_n hx hb h0 rfl (hl.get 0 rfl) (k p l e R s m args below meth c H locs Q D nx nz ad ca A ls C hd hP hS hal hl)
theorem r_aload1 {a0 : Option Value} {tl : List (Option Value)} {v : Nat} (h0 : dec q pc = .ok (.aload_n 1, 1)) (k : G q d x mc ms oc al cs ss (pc + 1) (a0 :: some (.ref v) :: tl) (.ref v :: st) M) : G q d x mc ms oc al cs ss pc (a0 :: some (.ref v) :: tl) st M := by
  intro p l e R s m args below meth c H locs Q D nx nz ad ca A ls C hd hP hS hal hl
  obtain ⟨hx, hb, hml, hr, hown, hts, hK, hE, hA, hJ, hAd, hlk, hst, hRm, hmd⟩ := id C
  exact lv_aload_n hx hb h0 rfl (hl.get 1 rfl) (k p l e R s m args below meth c H locs Q D nx nz ad ca A ls C hd hP hS hal hl)
theorem r_aload2 {a0 a1 : Option Value} {tl : List (Option Value)} {v : Nat} (h0 : dec q pc = .ok (.aload_n 2, 1)) (k : G q d x mc ms oc al cs ss (pc + 1) (a0 :: a1 :: some (.ref v) :: tl) (.ref v :: st) M) : G q d x mc ms oc al cs ss pc (a0 :: a1 :: some (.ref v) :: tl) st M := by
  intro p l e R s m args below meth c H locs Q D nx nz ad ca A ls C hd hP hS hal hl
  obtain ⟨hx, hb, hml, hr, hown, hts, hK, hE, hA, hJ, hAd, hlk, hst, hRm, hmd⟩ := id C
  exact lv_aload_n hx hb h0 rfl (hl.get 2 rfl) (k p l e R s m args below meth c H locs Q D nx nz ad ca A ls C hd hP hS hal hl)
theorem r_aload3 {a0 a1 a2 : Option Value} {tl : List (Option Value)} {v : Nat} (h0 : dec q pc = .ok (.aload_n 3, 1)) (k : G q d x mc ms oc al cs ss (pc + 1) (a0 :: a1 :: a2 :: some (.ref v) :: tl) (.ref v :: st) M) : G q d x mc ms oc al cs ss pc (a0 :: a1 :: a2 :: some (.ref v) :: tl) st M := by
  intro p l e R s m args below meth c H locs Q D nx nz ad ca A ls C hd hP hS hal hl
  obtain ⟨hx, hb, hml, hr, hown, hts, hK, hE, hA, hJ, hAd, hlk, hst, hRm, hmd⟩ := id C
  exact lv_aload_n hx hb h0 rfl (hl.get 3 rfl) (k p l e R s m args below meth c H locs Q D nx nz ad ca A ls C hd hP hS hal hl)
theorem r_aload4 {a0 a1 a2 a3 : Option Value} {tl : List (Option Value)} {v : Nat} (h0 : dec q pc = .ok (.aload 4, 2)) (k : G q d x mc ms oc al cs ss (pc + 2) (a0 :: a1 :: a2 :: a3 :: some (.ref v) :: tl) (.ref v :: st) M) : G q d x mc ms oc al cs ss pc (a0 :: a1 :: a2 :: a3 :: some (.ref v) :: tl) st M := by
  intro p l e R s m args below meth c H locs Q D nx nz ad ca A ls C hd hP hS hal hl
  obtain ⟨hx, hb, hml, hr, hown, hts, hK, hE, hA, hJ, hAd, hlk, hst, hRm, hmd⟩ := id C
  exact lv_aload hx hb h0 (hl.get 4 rfl) (k p l e R s m args below meth c H locs Q D nx nz ad ca A ls C hd hP hS hal hl)
theorem r_aload5 {a0 a1 a2 a3 a4 : Option Value} {tl : List (Option Value)} {v : Nat} (h0 : dec q pc = .ok (.aload 5, 2)) (k : G q d x mc ms oc al cs ss (pc + 2) (a0 :: a1 :: a2 :: a3 :: a4 :: some (.ref v) :: tl) (.ref v :: st) M) : G q d x mc ms oc al cs ss pc (a0 :: a1 :: a2 :: a3 :: a4 :: some (.ref v) :: tl) st M := by
  intro p l e R s m args below meth c H locs Q D nx nz ad ca A ls C hd hP hS hal hl
  obtain ⟨hx, hb, hml, hr, hown, hts, hK, hE, hA, hJ, hAd, hlk, hst, hRm, hmd⟩ := id C
  exact lv_aload hx hb h0 (hl.get 5 rfl) (k p l e R s m args below meth c H locs Q D nx nz ad ca A ls C hd hP hS hal hl)
theorem r_aload6 {a0 a1 a2 a3 a4 a5 : Option Value} {tl : List (Option Value)} {v : Nat} (h0 : dec q pc = .ok (.aload 6, 2)) (k : G q d x mc ms oc al cs ss (pc + 2) (a0 :: a1 :: a2 :: a3 :: a4 :: a5 :: some (.ref v) :: tl) (.ref v :: st) M) : G q d x mc ms oc al cs ss pc (a0 :: a1 :: a2 :: a3 :: a4 :: a5 :: some (.ref v) :: tl) st M := by
  intro p l e R s m args below meth c H locs Q D nx nz ad ca A ls C hd hP hS hal hl
  obtain ⟨hx, hb, hml, hr, hown, hts, hK, hE, hA, hJ, hAd, hlk, hst, hRm, hmd⟩ := id C
  exact lv_aload hx hb h0 (hl.get 6 rfl) (k p l e R s m args below meth c H locs Q D nx nz ad ca A ls C hd hP hS hal hl)
theorem r_aload7 {a0 a1 a2 a3 a4 a5 a6 : Option Value} {tl : List (Option Value)} {v : Nat} (h0 : dec q pc = .ok (.aload 7, 2)) (k : G q d x mc ms oc al cs ss (pc + 2) (a0 :: a1 :: a2 :: a3 :: a4 :: a5 :: a6 :: some (.ref v) :: tl) (.ref v :: st) M) : G q d x mc ms oc al cs ss pc (a0 :: a1 :: a2 :: a3 :: a4 :: a5 :: a6 :: some (.ref v) :: tl) st M := by
  intro p l e R s m args below meth c H locs Q D nx nz ad ca A ls C hd hP hS hal hl
  obtain ⟨hx, hb, hml, hr, hown, hts, hK, hE, hA, hJ, hAd, hlk, hst, hRm, hmd⟩ := id C
  exact lv_aload hx hb h0 (hl.get 7 rfl) (k p l e R s m args below meth c H locs Q D nx nz ad ca A ls C hd hP hS hal hl)
theorem r_aload8 {a0 a1 a2 a3 a4 a5 a6 a7 : Option Value} {tl : List (Option Value)} {v : Nat} (h0 : dec q pc = .ok (.aload 8, 2)) (k : G q d x mc ms oc al cs ss (pc + 2) (a0 :: a1 :: a2 :: a3 :: a4 :: a5 :: a6 :: a7 :: some (.ref v) :: tl) (.ref v :: st) M) : G q d x mc ms oc al cs ss pc (a0 :: a1 :: a2 :: a3 :: a4 :: a5 :: a6 :: a7 :: some (.ref v) :: tl) st M := by
  intro p l e R s m args below meth c H locs Q D nx nz ad ca A ls C hd hP hS hal hl
  obtain ⟨hx, hb, hml, hr, hown, hts, hK, hE, hA, hJ, hAd, hlk, hst, hRm, hmd⟩ := id C
  exact lv_aload hx hb h0 (hl.get 8 rfl) (k p l e R s m args below meth c H locs Q D nx nz ad ca A ls C hd hP hS hal hl)
theorem r_aload9 {a0 a1 a2 a3 a4 a5 a6 a7 a8 : Option Value} {tl : List (Option Value)} {v : Nat} (h0 : dec q pc = .ok (.aload 9, 2)) (k : G q d x mc ms oc al cs ss (pc + 2) (a0 :: a1 :: a2 :: a3 :: a4 :: a5 :: a6 :: a7 :: a8 :: some (.ref v) :: tl) (.ref v :: st) M) : G q d x mc ms oc al cs ss pc (a0 :: a1 :: a2 :: a3 :: a4 :: a5 :: a6 :: a7 :: a8 :: some (.ref v) :: tl) st M := by
  intro p l e R s m args below meth c H locs Q D nx nz ad ca A ls C hd hP hS hal hl
  obtain ⟨hx, hb, hml, hr, hown, hts, hK, hE, hA, hJ, hAd, hlk, hst, hRm, hmd⟩ := id C
  exact lv_aload hx hb h0 (hl.get 9 rfl) (k p l e R s m args below meth c H locs Q D nx nz ad ca A ls C hd hP hS hal hl)
theorem r_aload10 {a0 a1 a2 a3 a4 a5 a6 a7 a8 a9 : Option Value} {tl : List (Option Value)} {v : Nat} (h0 : dec q pc = .ok (.aload 10, 2)) (k : G q d x mc ms oc al cs ss (pc + 2) (a0 :: a1 :: a2 :: a3 :: a4 :: a5 :: a6 :: a7 :: a8 :: a9 :: some (.ref v) :: tl) (.ref v :: st) M) : G q d x mc ms oc al cs ss pc (a0 :: a1 :: a2 :: a3 :: a4 :: a5 :: a6 :: a7 :: a8 :: a9 :: some (.ref v) :: tl) st M := by
  intro p l e R s m args below meth c H locs Q D nx nz ad ca A ls C hd hP hS hal hl
  obtain ⟨hx, hb, hml, hr, hown, hts, hK, hE, hA, hJ, hAd, hlk, hst, hRm, hmd⟩ := id C
  exact lv_aload hx hb h0 (hl.get 10 rfl) (k p l e R s m args below meth c H locs Q D nx nz ad ca A ls C hd hP hS hal hl)
theorem r_aload11 {a0 a1 a2 a3 a4 a5 a6 a7 a8 a9 a10 : Option Value} {tl : List (Option Value)} {v : Nat} (h0 : dec q pc = .ok (.aload 11, 2)) (k : G q d x mc ms oc al cs ss (pc + 2) (a0 :: a1 :: a2 :: a3 :: a4 :: a5 :: a6 :: a7 :: a8 :: a9 :: a10 :: some (.ref v) :: tl) (.ref v :: st) M) : G q d x mc ms oc al cs ss pc (a0 :: a1 :: a2 :: a3 :: a4 :: a5 :: a6 :: a7 :: a8 :: a9 :: a10 :: some (.ref v) :: tl) st M := by
  intro p l e R s m args below meth c H locs Q D nx nz ad ca A ls C hd hP hS hal hl
  obtain ⟨hx, hb, hml, hr, hown, hts, hK, hE, hA, hJ, hAd, hlk, hst, hRm, hmd⟩ := id C
  exact lv_aload hx hb h0 (hl.get 11 rfl) (k p l e R s m args below meth c H locs Q D nx nz ad ca A ls C hd hP hS hal hl)
theorem r_aload12 {a0 a1 a2 a3 a4 a5 a6 a7 a8 a9 a10 a11 : Option Value} {tl : List (Option Value)} {v : Nat} (h0 : dec q pc = .ok (.aload 12, 2)) (k : G q d x mc ms oc al cs ss (pc + 2) (a0 :: a1 :: a2 :: a3 :: a4 :: a5 :: a6 :: a7 :: a8 :: a9 :: a10 :: a11 :: some (.ref v) :: tl) (.ref v :: st) M) : G q d x mc ms oc al cs ss pc (a0 :: a1 :: a2 :: a3 :: a4 :: a5 :: a6 :: a7 :: a8 :: a9 :: a10 :: a11 :: some (.ref v) :: tl) st M := by
  intro p l e R s m args below meth c H locs Q D nx nz ad ca A ls C hd hP hS hal hl
  obtain ⟨hx, hb, hml, hr, hown, hts, hK, hE, hA, hJ, hAd, hlk, hst, hRm, hmd⟩ := id C
  exact lv_aload hx hb h0 (hl.get 12 rfl) (k p l e R s m args below meth c H locs Q D nx nz ad ca A ls C hd hP hS hal hl)
theorem r_aload13 {a0 a1 a2 a3 a4 a5 a6 a7 a8 a9 a10 a11 a12 : Option Value} {tl : List (Option Value)} {v : Nat} (h0 : dec q pc = .ok (.aload 13, 2)) (k : G q d x mc ms oc al cs ss (pc + 2) (a0 :: a1 :: a2 :: a3 :: a4 :: a5 :: a6 :: a7 :: a8 :: a9 :: a10 :: a11 :: a12 :: some (.ref v) :: tl) (.ref v :: st) M) : G q d x mc ms oc al cs ss pc (a0 :: a1 :: a2 :: a3 :: a4 :: a5 :: a6 :: a7 :: a8 :: a9 :: a10 :: a11 :: a12 :: some (.ref v) :: tl) st M := by
  intro p l e R s m args below meth c H locs Q D nx nz ad ca A ls C hd hP hS hal hl
  obtain ⟨hx, hb, hml, hr, hown, hts, hK, hE, hA, hJ, hAd, hlk, hst, hRm, hmd⟩ := id C
  exact lv_aload hx hb h0 (hl.get 13 rfl) (k p l e R s m args below meth c H locs Q D nx nz ad ca A ls C hd hP hS hal hl)
theorem r_aload14 {a0 a1 a2 a3 a4 a5 a6 a7 a8 a9 a10 a11 a12 a13 : Option Value} {tl : List (Option Value)} {v : Nat} (h0 : dec q pc = .ok (.aload 14, 2)) (k : G q d x mc ms oc al cs ss (pc + 2) (a0 :: a1 :: a2 :: a3 :: a4 :: a5 :: a6 :: a7 :: a8 :: a9 :: a10 :: a11 :: a12 :: a13 :: some (.ref v) :: tl) (.ref v :: st) M) : G q d x mc ms oc al cs ss pc (a0 :: a1 :: a2 :: a3 :: a4 :: a5 :: a6 :: a7 :: a8 :: a9 :: a10 :: a11 :: a12 :: a13 :: some (.ref v) :: tl) st M := by
  intro p l e R s m args below meth c H locs Q D nx nz ad ca A ls C hd hP hS hal hl
  obtain ⟨hx, hb, hml, hr, hown, hts, hK, hE, hA, hJ, hAd, hlk, hst, hRm, hmd⟩ := id C
  exact lv_aload hx hb h0 (hl.get 14 rfl) (k p l e R s m args below meth c H locs Q D nx nz ad ca A ls C hd hP hS hal hl)
theorem r_aload15 {a0 a1 a2 a3 a4 a5 a6 a7 a8 a9 a10 a11 a12 a13 a14 : Option Value} {tl : List (Option Value)} {v : Nat} (h0 : dec q pc = .ok (.aload 15, 2)) (k : G q d x mc ms oc al cs ss (pc + 2) (a0 :: a1 :: a2 :: a3 :: a4 :: a5 :: a6 :: a7 :: a8 :: a9 :: a10 :: a11 :: a12 :: a13 :: a14 :: some (.ref v) :: tl) (.ref v :: st) M) : G q d x mc ms oc al cs ss pc (a0 :: a1 :: a2 :: a3 :: a4 :: a5 :: a6 :: a7 :: a8 :: a9 :: a10 :: a11 :: a12 :: a13 :: a14 :: some (.ref v) :: tl) st M := by
  intro p l e R s m args below meth c H locs Q D nx nz ad ca A ls C hd hP hS hal hl
  obtain ⟨hx, hb, hml, hr, hown, hts, hK, hE, hA, hJ, hAd, hlk, hst, hRm, hmd⟩ := id C
  exact lv_aload hx hb h0 (hl.get 15 rfl) (k p l e R s m args below meth c H locs Q D nx nz ad ca A ls C hd hP hS hal hl)
theorem r_aload16 {a0 a1 a2 a3 a4 a5 a6 a7 a8 a9 a10 a11 a12 a13 a14 a15 : Option Value} {tl : List (Option Value)} {v : Nat} (h0 : dec q pc = .ok (.aload 16, 2)) (k : G q d x mc ms oc al cs ss (pc + 2) (a0 :: a1 :: a2 :: a3 :: a4 :: a5 :: a6 :: a7 :: a8 :: a9 :: a10 :: a11 :: a12 :: a13 :: a14 :: a15 :: some (.ref v) :: tl) (.ref v :: st) M) : G q d x mc ms oc al cs ss pc (a0 :: a1 :: a2 :: a3 :: a4 :: a5 :: a6 :: a7 :: a8 :: a9 :: a10 :: a11 :: a12 :: a13 :: a14 :: a15 :: some (.ref v) :: tl) st M := by
  intro p l e R s m args below meth c H locs Q D nx nz ad ca A ls C hd hP hS hal hl
  obtain ⟨hx, hb, hml, hr, hown, hts, hK, hE, hA, hJ, hAd, hlk, hst, hRm, hmd⟩ := id C
  exact lv_aload hx hb h0 (hl.get 16 rfl) (k p l e R s m args below meth c H locs Q D nx nz ad ca A ls C hd hP hS hal hl)
theorem r_aload17 {a0 a1 a2 a3 a4 a5 a6 a7 a8 a9 a10 a11 a12 a13 a14 a15 a16 : Option Value} {tl : List (Option Value)} {v : Nat} (h0 : dec q pc = .ok (.aload 17, 2)) (k : G q d x mc ms oc al cs ss (pc + 2) (a0 :: a1 :: a2 :: a3 :: a4 :: a5 :: a6 :: a7 :: a8 :: a9 :: a10 :: a11 :: a12 :: a13 :: a14 :: a15 :: a16 :: some (.ref v) :: tl) (.ref v :: st) M) : G q d x mc ms oc al cs ss pc (a0 :: a1 :: a2 :: a3 :: a4 :: a5 :: a6 :: a7 :: a8 :: a9 :: a10 :: a11 :: a12 :: a13 :: a14 :: a15 :: a16 :: some (.ref v) :: tl) st M := by
  intro p l e R s m args below meth c H locs Q D nx nz ad ca A ls C hd hP hS hal hl
  obtain ⟨hx, hb, hml, hr, hown, hts, hK, hE, hA, hJ, hAd, hlk, hst, hRm, hmd⟩ := id C
  exact lv_aload hx hb h0 (hl.get 17 rfl) (k p l e R s m args below meth c H locs Q D nx nz ad ca A ls C hd hP hS hal hl)
theorem r_aload18 {a0 a1 a2 a3 a4 a5 a6 a7 a8 a9 a10 a11 a12 a13 a14 a15 a16 a17 : Option Value} {tl : List (Option Value)} {v : Nat} (h0 : dec q pc = .ok (.aload 18, 2)) (k : G q d x mc ms oc al cs ss (pc + 2) (a0 :: a1 :: a2 :: a3 :: a4 :: a5 :: a6 :: a7 :: a8 :: a9 :: a10 :: a11 :: a12 :: a13 :: a14 :: a15 :: a16 :: a17 :: some (.ref v) :: tl) (.ref v :: st) M) : G q d x mc ms oc al cs ss pc (a0 :: a1 :: a2 :: a3 :: a4 :: a5 :: a6 :: a7 :: a8 :: a9 :: a10 :: a11 :: a12 :: a13 :: a14 :: a15 :: a16 :: a17 :: some (.ref v) :: tl) st M := by
  intro p l e R s m args below meth c H locs Q D nx nz ad ca A ls C hd hP hS hal hl
  obtain ⟨hx, hb, hml, hr, hown, hts, hK, hE, hA, hJ, hAd, hlk, hst, hRm, hmd⟩ := id C
  exact lv_aload hx hb h0 (hl.get 18 rfl) (k p l e R s m args below meth c H locs Q D nx nz ad ca A ls C hd hP hS hal hl)
theorem r_aload19 {a0 a1 a2 a3 a4 a5 a6 a7 a8 a9 a10 a11 a12 a13 a14 a15 a16 a17 a18 : Option Value} {tl : List (Option Value)} {v : Nat} (h0 : dec q pc = .ok (.aload 19, 2)) (k : G q d x mc ms oc al cs ss (pc + 2) (a0 :: a1 :: a2 :: a3 :: a4 :: a5 :: a6 :: a7 :: a8 :: a9 :: a10 :: a11 :: a12 :: a13 :: a14 :: a15 :: a16 :: a17 :: a18 :: some (.ref v) :: tl) (.ref v :: st) M) : G q d x mc ms oc al cs ss pc (a0 :: a1 :: a2 :: a3 :: a4 :: a5 :: a6 :: a7 :: a8 :: a9 :: a10 :: a11 :: a12 :: a13 :: a14 :: a15 :: a16 :: a17 :: a18 :: some (.ref v) :: tl) st M := by
  intro p l e R s m args below meth c H locs Q D nx nz ad ca A ls C hd hP hS hal hl
  obtain ⟨hx, hb, hml, hr, hown, hts, hK, hE, hA, hJ, hAd, hlk, hst, hRm, hmd⟩ := id C
  exact lv_aload hx hb h0 (hl.get 19 rfl) (k p l e R s m args below meth c H locs Q D nx nz ad ca A ls C hd hP hS hal hl)
theorem r_aload20 {a0 a1 a2 a3 a4 a5 a6 a7 a8 a9 a10 a11 a12 a13 a14 a15 a16 a17 a18 a19 : Option Value} {tl : List (Option Value)} {v : Nat} (h0 : dec q pc = .ok (.aload 20, 2)) (k : G q d x mc ms oc al cs ss (pc + 2) (a0 :: a1 :: a2 :: a3 :: a4 :: a5 :: a6 :: a7 :: a8 :: a9 :: a10 :: a11 :: a12 :: a13 :: a14 :: a15 :: a16 :: a17 :: a18 :: a19 :: some (.ref v) :: tl) (.ref v :: st) M) : G q d x mc ms oc al cs ss pc (a0 :: a1 :: a2 :: a3 :: a4 :: a5 :: a6 :: a7 :: a8 :: a9 :: a10 :: a11 :: a12 :: a13 :: a14 :: a15 :: a16 :: a17 :: a18 :: a19 :: some (.ref v) :: tl) st M := by
  intro p l e R s m args below meth c H locs Q D nx nz ad ca A ls C hd hP hS hal hl
  obtain ⟨hx, hb, hml, hr, hown, hts, hK, hE, hA, hJ, hAd, hlk, hst, hRm, hmd⟩ := id C
  exact lv_aload hx hb h0 (hl.get 20 rfl) (k p l e R s m args below meth c H locs Q D nx nz ad ca A ls C hd hP hS hal hl)
theorem r_aload21 {a0 a1 a2 a3 a4 a5 a6 a7 a8 a9 a10 a11 a12 a13 a14 a15 a16 a17 a18 a19 a20 : Option Value} {tl : List (Option Value)} {v : Nat} (h0 : dec q pc = .ok (.aload 21, 2)) (k : G q d x mc ms oc al cs ss (pc + 2) (a0 :: a1 :: a2 :: a3 :: a4 :: a5 :: a6 :: a7 :: a8 :: a9 :: a10 :: a11 :: a12 :: a13 :: a14 :: a15 :: a16 :: a17 :: a18 :: a19 :: a20 :: some (.ref v) :: tl) (.ref v :: st) M) : G q d x mc ms oc al cs ss pc (a0 :: a1 :: a2 :: a3 :: a4 :: a5 :: a6 :: a7 :: a8 :: a9 :: a10 :: a11 :: a12 :: a13 :: a14 :: a15 :: a16 :: a17 :: a18 :: a19 :: a20 :: some (.ref v) :: tl) st M := by
  intro p l e R s m args below meth c H locs Q D nx nz ad ca A ls C hd hP hS hal hl
  obtain ⟨hx, hb, hml, hr, hown, hts, hK, hE, hA, hJ, hAd, hlk, hst, hRm, hmd⟩ := id C
  exact lv_aload hx hb h0 (hl.get 21 rfl) (k p l e R s m args below meth c H locs Q D nx nz ad ca A ls C hd hP hS hal hl)
theorem r_aload22 {a0 a1 a2 a3 a4 a5 a6 a7 a8 a9 a10 a11 a12 a13 a14 a15 a16 a17 a18 a19 a20 a21 : Option Value} {tl : List (Option Value)} {v : Nat} (h0 : dec q pc = .ok (.aload 22, 2)) (k : G q d x mc ms oc al cs ss (pc + 2) (a0 :: a1 :: a2 :: a3 :: a4 :: a5 :: a6 :: a7 :: a8 :: a9 :: a10 :: a11 :: a12 :: a13 :: a14 :: a15 :: a16 :: a17 :: a18 :: a19 :: a20 :: a21 :: some (.ref v) :: tl) (.ref v :: st) M) : G q d x mc ms oc al cs ss pc (a0 :: a1 :: a2 :: a3 :: a4 :: a5 :: a6 :: a7 :: a8 :: a9 :: a10 :: a11 :: a12 :: a13 :: a14 :: a15 :: a16 :: a17 :: a18 :: a19 :: a20 :: a21 :: some (.ref v) :: tl) st M := by
  intro p l e R s m args below meth c H locs Q D nx nz ad ca A ls C hd hP hS hal hl
  obtain ⟨hx, hb, hml, hr, hown, hts, hK, hE, hA, hJ, hAd, hlk, hst, hRm, hmd⟩ := id C
  exact lv_aload hx hb h0 (hl.get 22 rfl) (k p l e R s m args below meth c H locs Q D nx nz ad ca A ls C hd hP hS hal hl)
theorem r_aload23 {a0 a1 a2 a3 a4 a5 a6 a7 a8 a9 a10 a11 a12 a13 a14 a15 a16 a17 a18 a19 a20 a21 a22 : Option Value} {tl : List (Option Value)} {v : Nat} (h0 : dec q pc = .ok (.aload 23, 2)) (k : G q d x mc ms oc al cs ss (pc + 2) (a0 :: a1 :: a2 :: a3 :: a4 :: a5 :: a6 :: a7 :: a8 :: a9 :: a10 :: a11 :: a12 :: a13 :: a14 :: a15 :: a16 :: a17 :: a18 :: a19 :: a20 :: a21 :: a22 :: some (.ref v) :: tl) (.ref v :: st) M) : G q d x mc ms oc al cs ss pc (a0 :: a1 :: a2 :: a3 :: a4 :: a5 :: a6 :: a7 :: a8 :: a9 :: a10 :: a11 :: a12 :: a13 :: a14 :: a15 :: a16 :: a17 :: a18 :: a19 :: a20 :: a21 :: a22 :: some (.ref v) :: tl) st M := by
  intro p l e R s m args below meth c H locs Q D nx nz ad ca A ls C hd hP hS hal hl
  obtain ⟨hx, hb, hml, hr, hown, hts, hK, hE, hA, hJ, hAd, hlk, hst, hRm, hmd⟩ := id C
  exact lv_aload hx hb h0 (hl.get 23 rfl) (k p l e R s m args below meth c H locs Q D nx nz ad ca A ls C hd hP hS hal hl)
theorem r_istore0 {a0 : Option Value} {tl : List (Option Value)} {v : Int32} (h0 : dec q pc = .ok (.istore_n 0, 1)) (k : G q d x mc ms oc al cs ss (pc + 1) (some (.int v) :: tl) st M) : G q d x mc ms oc al cs ss pc (a0 :: tl) (.int v :: st) M := by
  intro p l e R s m args below meth c H locs Q D nx nz ad ca A ls C hd hP hS hal hl
  obtain ⟨hx, hb, hml, hr, hown, hts, hK, hE, hA, hJ, hAd, hlk, hst, hRm, hmd⟩ := id C
  have hn9 : 0 < mL q := by have := hl.2.2.1; simp only [List.length_cons] at this; omega
  refine lv_istore_n hx hb h0 rfl hl.has hn9 rfl (fun ls' hl' => ?_)
  exact k p l e R s m args below meth c H locs Q D nx nz ad ca A ls' C hd hP hS hal (lvOK.st1 (x := .int v) hl hn9 (fun j hj => absurd hj (by omega)) hl')
theorem r_istore1 {a0 a1 : Option Value} {tl : List (Option Value)} {v : Int32} (h0 : dec q pc = .ok (.istore_n 1, 1)) (hn : nc a0 = true) (k : G q d x mc ms oc al cs ss (pc + 1) (a0 :: some (.int v) :: tl) st M) : G q d x mc ms oc al cs ss pc (a0 :: a1 :: tl) (.int v :: st) M := by
  intro p l e R s m args below meth c H locs Q D nx nz ad ca A ls C hd hP hS hal hl
  obtain ⟨hx, hb, hml, hr, hown, hts, hK, hE, hA, hJ, hAd, hlk, hst, hRm, hmd⟩ := id C
  have hn9 : 1 < mL q := by have := hl.2.2.1; simp only [List.length_cons] at this; omega
  refine lv_istore_n hx hb h0 rfl hl.has hn9 rfl (fun ls' hl' => ?_)
  exact k p l e R s m args below meth c H locs Q D nx nz ad ca A ls' C hd hP hS hal (lvOK.st1 (x := .int v) hl hn9 (fun j hj => by have h9 : j = 0 := (by omega); subst h9; exact hn) hl')
theorem r_istore2 {a0 a1 a2 : Option Value} {tl : List (Option Value)} {v : Int32} (h0 : dec q pc = .ok (.istore_n 2, 1)) (hn : nc a1 = true) (k : G q d x mc ms oc al cs ss (pc + 1) (a0 :: a1 :: some (.int v) :: tl) st M) : G q d x mc ms oc al cs ss pc (a0 :: a1 :: a2 :: tl) (.int v :: st) M := by
  intro p l e R s m args below meth c H locs Q D nx nz ad ca A ls C hd hP hS hal hl
  obtain ⟨hx, hb, hml, hr, hown, hts, hK, hE, hA, hJ, hAd, hlk, hst, hRm, hmd⟩ := id C
  have hn9 : 2 < mL q := by have := hl.2.2.1; simp only [List.length_cons] at this; omega
  refine lv_istore_n hx hb h0 rfl hl.has hn9 rfl (fun ls' hl' => ?_)
  exact k p l e R s m args below meth c H locs Q D nx nz ad ca A ls' C hd hP hS hal (lvOK.st1 (x := .int v) hl hn9 (fun j hj => by have h9 : j = 1 := (by omega); subst h9; exact hn) hl')
theorem r_istore3 {a0 a1 a2 a3 : Option Value} {tl : List (Option Value)} {v : Int32} (h0 : dec q pc = .ok (.istore_n 3, 1)) (hn : nc a2 = true) (k : G q d x mc ms oc al cs ss (pc + 1) (a0 :: a1 :: a2 :: some (.int v) :: tl) st M) : G q d x mc ms oc al cs ss pc (a0 :: a1 :: a2 :: a3 :: tl) (.int v :: st) M := by
  intro p l e R s m args below meth c H locs Q D nx nz ad ca A ls C hd hP hS hal hl
  obtain ⟨hx, hb, hml, hr, hown, hts, hK, hE, hA, hJ, hAd, hlk, hst, hRm, hmd⟩ := id C
  have hn9 : 3 < mL q := by have := hl.2.2.1; simp only [List.length_cons] at this; omega
  refine lv_istore_n hx hb h0 rfl hl.has hn9 rfl (fun ls' hl' => ?_)
  exact k p l e R s m args below meth c H locs Q D nx nz ad ca A ls' C hd hP hS hal (lvOK.st1 (x := .int v) hl hn9 (fun j hj => by have h9 : j = 2 := (by omega); subst h9; exact hn) hl')
theorem r_istore4 {a0 a1 a2 a3 a4 : Option Value} {tl : List (Option Value)} {v : Int32} (h0 : dec q pc = .ok (.istore 4, 2)) (hn : nc a3 = true) (k : G q d x mc ms oc al cs ss (pc + 2) (a0 :: a1 :: a2 :: a3 :: some (.int v) :: tl) st M) : G q d x mc ms oc al cs ss pc (a0 :: a1 :: a2 :: a3 :: a4 :: tl) (.int v :: st) M := by
  intro p l e R s m args below meth c H locs Q D nx nz ad ca A ls C hd hP hS hal hl
  obtain ⟨hx, hb, hml, hr, hown, hts, hK, hE, hA, hJ, hAd, hlk, hst, hRm, hmd⟩ := id C
  have hn9 : 4 < mL q := by have := hl.2.2.1; simp only [List.length_cons] at this; omega
  refine lv_istore hx hb h0 hl.has hn9 rfl (fun ls' hl' => ?_)
  exact k p l e R s m args below meth c H locs Q D nx nz ad ca A ls' C hd hP hS hal (lvOK.st1 (x := .int v) hl hn9 (fun j hj => by have h9 : j = 3 := (by omega); subst h9; exact hn) hl')
theorem r_istore5 {a0 a1 a2 a3 a4 a5 : Option Value} {tl : List (Option Value)} {v : Int32} (h0 : dec q pc = .ok (.istore 5, 2)) (hn : nc a4 = true) (k : G q d x mc ms oc al cs ss (pc + 2) (a0 :: a1 :: a2 :: a3 :: a4 :: some (.int v) :: tl) st M) : G q d x mc ms oc al cs ss pc (a0 :: a1 :: a2 :: a3 :: a4 :: a5 :: tl) (.int v :: st) M := by
  intro p l e R s m args below meth c H locs Q D nx nz ad ca A ls C hd hP hS hal hl
  obtain ⟨hx, hb, hml, hr, hown, hts, hK, hE, hA, hJ, hAd, hlk, hst, hRm, hmd⟩ := id C
  have hn9 : 5 < mL q := by have := hl.2.2.1; simp only [List.length_cons] at this; omega
  refine lv_istore hx hb h0 hl.has hn9 rfl (fun ls' hl' => ?_)
  exact k p l e R s m args below meth c H locs Q D nx nz ad ca A ls' C hd hP hS hal (lvOK.st1 (x := .int v) hl hn9 (fun j hj => by have h9 : j = 4 := (by omega); subst h9; exact hn) hl')
theorem r_istore6 {a0 a1 a2 a3 a4 a5 a6 : Option Value} {tl : List (Option Value)} {v : Int32} (h0 : dec q pc = .ok (.istore 6, 2)) (hn : nc a5 = true) (k : G q d x mc ms oc al cs ss (pc + 2) (a0 :: a1 :: a2 :: a3 :: a4 :: a5 :: some (.int v) :: tl) st M) : G q d x mc ms oc al cs ss pc (a0 :: a1 :: a2 :: a3 :: a4 :: a5 :: a6 :: tl) (.int v :: st) M := by
  intro p l e R s m args below meth c H locs Q D nx nz ad ca A ls C hd hP hS hal hl
  obtain ⟨hx, hb, hml, hr, hown, hts, hK, hE, hA, hJ, hAd, hlk, hst, hRm, hmd⟩ := id C
  have hn9 : 6 < mL q := by have := hl.2.2.1; simp only [List.length_cons] at this; omega
  refine lv_istore hx hb h0 hl.has hn9 rfl (fun ls' hl' => ?_)
  exact k p l e R s m args below meth c H locs Q D nx nz ad ca A ls' C hd hP hS hal (lvOK.st1 (x := .int v) hl hn9 (fun j hj => by have h9 : j = 5 := (by omega); subst h9; exact hn) hl')
theorem r_istore7 {a0 a1 a2 a3 a4 a5 a6 a7 : Option Value} {tl : List (Option Value)} {v : Int32} (h0 : dec q pc = .ok (.istore 7, 2)) (hn : nc a6 = true) (k : G q d x mc ms oc al cs ss (pc + 2) (a0 :: a1 :: a2 :: a3 :: a4 :: a5 :: a6 :: some (.int v) :: tl) st M) : G q d x mc ms oc al cs ss pc (a0 :: a1 :: a2 :: a3 :: a4 :: a5 :: a6 :: a7 :: tl) (.int v :: st) M := by
  intro p l e R s m args below meth c H locs Q D nx nz ad ca A ls C hd hP hS hal hl
  obtain ⟨hx, hb, hml, hr, hown, hts, hK, hE, hA, hJ, hAd, hlk, hst, hRm, hmd⟩ := id C
  have hn9 : 7 < mL q := by have := hl.2.2.1; simp only [List.length_cons] at this; omega
  refine lv_istore hx hb h0 hl.has hn9 rfl (fun ls' hl' => ?_)
  exact k p l e R s m args below meth c H locs Q D nx nz ad ca A ls' C hd hP hS hal (lvOK.st1 (x := .int v) hl hn9 (fun j hj => by have h9 : j = 6 := (by omega); subst h9; exact hn) hl')
theorem r_istore8 {a0 a1 a2 a3 a4 a5 a6 a7 a8 : Option Value} {tl : List (Option Value)} {v : Int32} (h0 : dec q pc = .ok (.istore 8, 2)) (hn : nc a7 = true) (k : G q d x mc ms oc al cs ss (pc + 2) (a0 :: a1 :: a2 :: a3 :: a4 :: a5 :: a6 :: a7 :: some (.int v) :: tl) st M) : G q d x mc ms oc al cs ss pc (a0 :: a1 :: a2 :: a3 :: a4 :: a5 :: a6 :: a7 :: a8 :: tl) (.int v :: st) M := by
  intro p l e R s m args below meth c H locs Q D nx nz ad ca A ls C hd hP hS hal hl
  obtain ⟨hx, hb, hml, hr, hown, hts, hK, hE, hA, hJ, hAd, hlk, hst, hRm, hmd⟩ := id C
  have hn9 : 8 < mL q := by have := hl.2.2.1; simp only [List.length_cons] at this; omega
  refine lv_istore hx hb h0 hl.has hn9 rfl (fun ls' hl' => ?_)
  exact k p l e R s m args below meth c H locs Q D nx nz ad ca A ls' C hd hP hS hal (lvOK.st1 (x := .int v) hl hn9 (fun j hj => by have h9 : j = 7 := (by omega); subst h9; exact hn) hl')
theorem r_istore9 {a0 a1 a2 a3 a4 a5 a6 a7 a8 a9 : Option Value} {tl : List (Option Value)} {v : Int32} (h0 : dec q pc = .ok (.istore 9, 2)) (hn : nc a8 = true) (k : G q d x mc ms oc al cs ss (pc + 2) (a0 :: a1 :: a2 :: a3 :: a4 :: a5 :: a6 :: a7 :: a8 :: some (.int v) :: tl) st M) : G q d x mc ms oc al cs ss pc (a0 :: a1 :: a2 :: a3 :: a4 :: a5 :: a6 :: a7 :: a8 :: a9 :: tl) (.int v :: st) M := by
  intro p l e R s m args below meth c H locs Q D nx nz ad ca A ls C hd hP hS hal hl
  obtain ⟨hx, hb, hml, hr, hown, hts, hK, hE, hA, hJ, hAd, hlk, hst, hRm, hmd⟩ := id C
  have hn9 : 9 < mL q := by have := hl.2.2.1; simp only [List.length_cons] at this; omega
  refine lv_istore hx hb h0 hl.has hn9 rfl (fun ls' hl' => ?_)
  exact k p l e R s m args below meth c H locs Q D nx nz ad ca A ls' C hd hP hS hal (lvOK.st1 (x := .int v) hl hn9 (fun j hj => by have h9 : j = 8 := (by omega); subst h9; exact hn) hl')
theorem r_istore10 {a0 a1 a2 a3 a4 a5 a6 a7 a8 a9 a10 : Option Value} {tl : List (Option Value)} {v : Int32} (h0 : dec q pc = .ok (.istore 10, 2)) (hn : nc a9 = true) (k : G q d x mc ms oc al cs ss (pc + 2) (a0 :: a1 :: a2 :: a3 :: a4 :: a5 :: a6 :: a7 :: a8 :: a9 :: some (.int v) :: tl) st M) : G q d x mc ms oc al cs ss pc (a0 :: a1 :: a2 :: a3 :: a4 :: a5 :: a6 :: a7 :: a8 :: a9 :: a10 :: tl) (.int v :: st) M := by
  intro p l e R s m args below meth c H locs Q D nx nz ad ca A ls C hd hP hS hal hl
  obtain ⟨hx, hb, hml, hr, hown, hts, hK, hE, hA, hJ, hAd, hlk, hst, hRm, hmd⟩ := id C
  have hn9 : 10 < mL q := by have := hl.2.2.1; simp only [List.length_cons] at this; omega
  refine lv_istore hx hb h0 hl.has hn9 rfl (fun ls' hl' => ?_)
  exact k p l e R s m args below meth c H locs Q D nx nz ad ca A ls' C hd hP hS hal (lvOK.st1 (x := .int v) hl hn9 (fun j hj => by have h9 : j = 9 := (by omega); subst h9; exact hn) hl')
theorem r_istore11 {a0 a1 a2 a3 a4 a5 a6 a7 a8 a9 a10 a11 : Option Value} {tl : List (Option Value)} {v : Int32} (h0 : dec q pc = .ok (.istore 11, 2)) (hn : nc a10 = true) (k : G q d x mc ms oc al cs ss (pc + 2) (a0 :: a1 :: a2 :: a3 :: a4 :: a5 :: a6 :: a7 :: a8 :: a9 :: a10 :: some (.int v) :: tl) st M) : G q d x mc ms oc al cs ss pc (a0 :: a1 :: a2 :: a3 :: a4 :: a5 :: a6 :: a7 :: a8 :: a9 :: a10 :: a11 :: tl) (.int v :: st) M := by
  intro p l e R s m args below meth c H locs Q D nx nz ad ca A ls C hd hP hS hal hl
  obtain ⟨hx, hb, hml, hr, hown, hts, hK, hE, hA, hJ, hAd, hlk, hst, hRm, hmd⟩ := id C
  have hn9 : 11 < mL q := by have := hl.2.2.1; simp only [List.length_cons] at this; omega
  refine lv_istore hx hb h0 hl.has hn9 rfl (fun ls' hl' => ?_)
  exact k p l e R s m args below meth c H locs Q D nx nz ad ca A ls' C hd hP hS hal (lvOK.st1 (x := .int v) hl hn9 (fun j hj => by have h9 : j = 10 := (by omega); subst h9; exact hn) hl')
theorem r_istore12 {a0 a1 a2 a3 a4 a5 a6 a7 a8 a9 a10 a11 a12 : Option Value} {tl : List (Option Value)} {v : Int32} (h0 : dec q pc = .ok (.istore 12, 2)) (hn : nc a11 = true) (k : G q d x mc ms oc al cs ss (pc + 2) (a0 :: a1 :: a2 :: a3 :: a4 :: a5 :: a6 :: a7 :: a8 :: a9 :: a10 :: a11 :: some (.int v) :: tl) st M) : G q d x mc ms oc al cs ss pc (a0 :: a1 :: a2 :: a3 :: a4 :: a5 :: a6 :: a7 :: a8 :: a9 :: a10 :: a11 :: a12 :: tl) (.int v :: st) M := by
  intro p l e R s m args below meth c H locs Q D nx nz ad ca A ls C hd hP hS hal hl
  obtain ⟨hx, hb, hml, hr, hown, hts, hK, hE, hA, hJ, hAd, hlk, hst, hRm, hmd⟩ := id C
  have hn9 : 12 < mL q := by have := hl.2.2.1; simp only [List.length_cons] at this; omega
  refine lv_istore hx hb h0 hl.has hn9 rfl (fun ls' hl' => ?_)
  exact k p l e R s m args below meth c H locs Q D nx nz ad ca A ls' C hd hP hS hal (lvOK.st1 (x := .int v) hl hn9 (fun j hj => by have h9 : j = 11 := (by omega); subst h9; exact hn) hl')
theorem r_istore13 {a0 a1 a2 a3 a4 a5 a6 a7 a8 a9 a10 a11 a12 a13 : Option Value} {tl : List (Option Value)} {v : Int32} (h0 : dec q pc = .ok (.istore 13, 2)) (hn : nc a12 = true) (k : G q d x mc ms oc al cs ss (pc + 2) (a0 :: a1 :: a2 :: a3 :: a4 :: a5 :: a6 :: a7 :: a8 :: a9 :: a10 :: a11 :: a12 :: some (.int v) :: tl) st M) : G q d x mc ms oc al cs ss pc (a0 :: a1 :: a2 :: a3 :: a4 :: a5 :: a6 :: a7 :: a8 :: a9 :: a10 :: a11 :: a12 :: a13 :: tl) (.int v :: st) M := by
  intro p l e R s m args below meth c H locs Q D nx nz ad ca A ls C hd hP hS hal hl
  obtain ⟨hx, hb, hml, hr, hown, hts, hK, hE, hA, hJ, hAd, hlk, hst, hRm, hmd⟩ := id C
  have hn9 : 13 < mL q := by have := hl.2.2.1; simp only [List.length_cons] at this; omega
  refine lv_istore hx hb h0 hl.has hn9 rfl (fun ls' hl' => ?_)
  exact k p l e R s m args below meth c H locs Q D nx nz ad ca A ls' C hd hP hS hal (lvOK.st1 (x := .int v) hl hn9 (fun j hj => by have h9 : j = 12 := (by omega); subst h9; exact hn) hl')
theorem r_istore14 {a0 a1 a2 a3 a4 a5 a6 a7 a8 a9 a10 a11 a12 a13 a14 : Option Value} {tl : List (Option Value)} {v : Int32} (h0 : dec q pc = .ok (.istore 14, 2)) (hn : nc a13 = true) (k : G q d x mc ms oc al cs ss (pc + 2) (a0 :: a1 :: a2 :: a3 :: a4 :: a5 :: a6 :: a7 :: a8 :: a9 :: a10 :: a11 :: a12 :: a13 :: some (.int v) :: tl) st M) : G q d x mc ms oc al cs ss pc (a0 :: a1 :: a2 :: a3 :: a4 :: a5 :: a6 :: a7 :: a8 :: a9 :: a10 :: a11 :: a12 :: a13 :: a14 :: tl) (.int v :: st) M := by
  intro p l e R s m args below meth c H locs Q D nx nz ad ca A ls C hd hP hS hal hl
  obtain ⟨hx, hb, hml, hr, hown, hts, hK, hE, hA, hJ, hAd, hlk, hst, hRm, hmd⟩ := id C
  have hn9 : 14 < mL q := by have := hl.2.2.1; simp only [List.length_cons] at this; omega
  refine lv_istore hx hb h0 hl.has hn9 rfl (fun ls' hl' => ?_)
  exact k p l e R s m args below meth c H locs Q D nx nz ad ca A ls' C hd hP hS hal (lvOK.st1 (x := .int v) hl hn9 (fun j hj => by have h9 : j = 13 := (by omega); subst h9; exact hn) hl')
theorem r_istore15 {a0 a1 a2 a3 a4 a5 a6 a7 a8 a9 a10 a11 a12 a13 a14 a15 : Option Value} {tl : List (Option Value)} {v : Int32} (h0 : dec q pc = .ok (.istore 15, 2)) (hn : nc a14 = true) (k : G q d x mc ms oc al cs ss (pc + 2) (a0 :: a1 :: a2 :: a3 :: a4 :: a5 :: a6 :: a7 :: a8 :: a9 :: a10 :: a11 :: a12 :: a13 :: a14 :: some (.int v) :: tl) st M) : G q d x mc ms oc al cs ss pc (a0 :: a1 :: a2 :: a3 :: a4 :: a5 :: a6 :: a7 :: a8 :: a9 :: a10 :: a11 :: a12 :: a13 :: a14 :: a15 :: tl) (.int v :: st) M := by
  intro p l e R s m args below meth c H locs Q D nx nz ad ca A ls C hd hP hS hal hl
  obtain ⟨hx, hb, hml, hr, hown, hts, hK, hE, hA, hJ, hAd, hlk, hst, hRm, hmd⟩ := id C
  have hn9 : 15 < mL q := by have := hl.2.2.1; simp only [List.length_cons] at this; omega
  refine lv_istore hx hb h0 hl.has hn9 rfl (fun ls' hl' => ?_)
  exact k p l e R s m args below meth c H locs Q D nx nz ad ca A ls' C hd hP hS hal (lvOK.st1 (x := .int v) hl hn9 (fun j hj => by have h9 : j = 14 := (by omega); subst h9; exact hn) hl')
theorem r_istore16 {a0 a1 a2 a3 a4 a5 a6 a7 a8 a9 a10 a11 a12 a13 a14 a15 a16 : Option Value} {tl : List (Option Value)} {v : Int32} (h0 : dec q pc = .ok (.istore 16, 2)) (hn : nc a15 = true) (k : G q d x mc ms oc al cs ss (pc + 2) (a0 :: a1 :: a2 :: a3 :: a4 :: a5 :: a6 :: a7 :: a8 :: a9 :: a10 :: a11 :: a12 :: a13 :: a14 :: a15 :: some (.int v) :: tl) st M) : G q d x mc ms oc al cs ss pc (a0 :: a1 :: a2 :: a3 :: a4 :: a5 :: a6 :: a7 :: a8 :: a9 :: a10 :: a11 :: a12 :: a13 :: a14 :: a15 :: a16 :: tl) (.int v :: st) M := by
  intro p l e R s m args below meth c H locs Q D nx nz ad ca A ls C hd hP hS hal hl
  obtain ⟨hx, hb, hml, hr, hown, hts, hK, hE, hA, hJ, hAd, hlk, hst, hRm, hmd⟩ := id C
  have hn9 : 16 < mL q := by have := hl.2.2.1; simp only [List.length_cons] at this; omega
  refine lv_istore hx hb h0 hl.has hn9 rfl (fun ls' hl' => ?_)
  exact k p l e R s m args below meth c H locs Q D nx nz ad ca A ls' C hd hP hS hal (lvOK.st1 (x := .int v) hl hn9 (fun j hj => by have h9 : j = 15 := (by omega); subst h9; exact hn) hl')
theorem r_istore17 {a0 a1 a2 a3 a4 a5 a6 a7 a8 a9 a10 a11 a12 a13 a14 a15 a16 a17 : Option Value} {tl : List (Option Value)} {v : Int32} (h0 : dec q pc = .ok (.istore 17, 2)) (hn : nc a16 = true) (k : G q d x mc ms oc al cs ss (pc + 2) (a0 :: a1 :: a2 :: a3 :: a4 :: a5 :: a6 :: a7 :: a8 :: a9 :: a10 :: a11 :: a12 :: a13 :: a14 :: a15 :: a16 :: some (.int v) :: tl) st M) : G q d x mc ms oc al cs ss pc (a0 :: a1 :: a2 :: a3 :: a4 :: a5 :: a6 :: a7 :: a8 :: a9 :: a10 :: a11 :: a12 :: a13 :: a14 :: a15 :: a16 :: a17 :: tl) (.int v :: st) M := by
  intro p l e R s m args below meth c H locs Q D nx nz ad ca A ls C hd hP hS hal hl
  obtain ⟨hx, hb, hml, hr, hown, hts, hK, hE, hA, hJ, hAd, hlk, hst, hRm, hmd⟩ := id C
  have hn9 : 17 < mL q := by have := hl.2.2.1; simp only [List.length_cons] at this; omega
  refine lv_istore hx hb h0 hl.has hn9 rfl (fun ls' hl' => ?_)
  exact k p l e R s m args below meth c H locs Q D nx nz ad ca A ls' C hd hP hS hal (lvOK.st1 (x := .int v) hl hn9 (fun j hj => by have h9 : j = 16 := (by omega); subst h9; exact hn) hl')
theorem r_istore18 {a0 a1 a2 a3 a4 a5 a6 a7 a8 a9 a10 a11 a12 a13 a14 a15 a16 a17 a18 : Option Value} {tl : List (Option Value)} {v : Int32} (h0 : dec q pc = .ok (.istore 18, 2)) (hn : nc a17 = true) (k : G q d x mc ms oc al cs ss (pc + 2) (a0 :: a1 :: a2 :: a3 :: a4 :: a5 :: a6 :: a7 :: a8 :: a9 :: a10 :: a11 :: a12 :: a13 :: a14 :: a15 :: a16 :: a17 :: some (.int v) :: tl) st M) : G q d x mc ms oc al cs ss pc (a0 :: a1 :: a2 :: a3 :: a4 :: a5 :: a6 :: a7 :: a8 :: a9 :: a10 :: a11 :: a12 :: a13 :: a14 :: a15 :: a16 :: a17 :: a18 :: tl) (.int v :: st) M := by
  intro p l e R s m args below meth c H locs Q D nx nz ad ca A ls C hd hP hS hal hl
  obtain ⟨hx, hb, hml, hr, hown, hts, hK, hE, hA, hJ, hAd, hlk, hst, hRm, hmd⟩ := id C
  have hn9 : 18 < mL q := by have := hl.2.2.1; simp only [List.length_cons] at this; omega
  refine lv_istore hx hb h0 hl.has hn9 rfl (fun ls' hl' => ?_)
  exact k p l e R s m args below meth c H locs Q D nx nz ad ca A ls' C hd hP hS hal (lvOK.st1 (x := .int v) hl hn9 (fun j hj => by have h9 : j = 17 := (by omega); subst h9; exact hn) hl')
theorem r_istore19 {a0 a1 a2 a3 a4 a5 a6 a7 a8 a9 a10 a11 a12 a13 a14 a15 a16 a17 a18 a19 : Option Value} {tl : List (Option Value)} {v : Int32} (h0 : dec q pc = .ok (.istore 19, 2)) (hn : nc a18 = true) (k : G q d x mc ms oc al cs ss (pc + 2) (a0 :: a1 :: a2 :: a3 :: a4 :: a5 :: a6 :: a7 :: a8 :: a9 :: a10 :: a11 :: a12 :: a13 :: a14 :: a15 :: a16 :: a17 :: a18 :: some (.int v) :: tl) st M) : G q d x mc ms oc al cs ss pc (a0 :: a1 :: a2 :: a3 :: a4 :: a5 :: a6 :: a7 :: a8 :: a9 :: a10 :: a11 :: a12 :: a13 :: a14 :: a15 :: a16 :: a17 :: a18 :: a19 :: tl) (.int v :: st) M := by
  intro p l e R s m args below meth c H locs Q D nx nz ad ca A ls C hd hP hS hal hl
  obtain ⟨hx, hb, hml, hr, hown, hts, hK, hE, hA, hJ, hAd, hlk, hst, hRm, hmd⟩ := id C
  have hn9 : 19 < mL q := by have := hl.2.2.1; simp only [List.length_cons] at this; omega
  refine lv_istore hx hb h0 hl.has hn9 rfl (fun ls' hl' => ?_)
  exact k p l e R s m args below meth c H locs Q D nx nz ad ca A ls' C hd hP hS hal (lvOK.st1 (x := .int v) hl hn9 (fun j hj => by have h9 : j = 18 := (by omega); subst h9; exact hn) hl')
theorem r_istore20 {a0 a1 a2 a3 a4 a5 a6 a7 a8 a9 a10 a11 a12 a13 a14 a15 a16 a17 a18 a19 a20 : Option Value} {tl : List (Option Value)} {v : Int32} (h0 : dec q pc = .ok (.istore 20, 2)) (hn : nc a19 = true) (k : G q d x mc ms oc al cs ss (pc + 2) (a0 :: a1 :: a2 :: a3 :: a4 :: a5 :: a6 :: a7 :: a8 :: a9 :: a10 :: a11 :: a12 :: a13 :: a14 :: a15 :: a16 :: a17 :: a18 :: a19 :: some (.int v) :: tl) st M) : G q d x mc ms oc al cs ss pc (a0 :: a1 :: a2 :: a3 :: a4 :: a5 :: a6 :: a7 :: a8 :: a9 :: a10 :: a11 :: a12 :: a13 :: a14 :: a15 :: a16 :: a17 :: a18 :: a19 :: a20 :: tl) (.int v :: st) M := by
  intro p l e R s m args below meth c H locs Q D nx nz ad ca A ls C hd hP hS hal hl
  obtain ⟨hx, hb, hml, hr, hown, hts, hK, hE, hA, hJ, hAd, hlk, hst, hRm, hmd⟩ := id C
  have hn9 : 20 < mL q := by have := hl.2.2.1; simp only [List.length_cons] at this; omega
  refine lv_istore hx hb h0 hl.has hn9 rfl (fun ls' hl' => ?_)
  exact k p l e R s m args below meth c H locs Q D nx nz ad ca A ls' C hd hP hS hal (lvOK.st1 (x := .int v) hl hn9 (fun j hj => by have h9 : j = 19 := (by omega); subst h9; exact hn) hl')
theorem r_istore21 {a0 a1 a2 a3 a4 a5 a6 a7 a8 a9 a10 a11 a12 a13 a14 a15 a16 a17 a18 a19 a20 a21 : Option Value} {tl : List (Option Value)} {v : Int32} (h0 : dec q pc = .ok (.istore 21, 2)) (hn : nc a20 = true) (k : G q d x mc ms oc al cs ss (pc + 2) (a0 :: a1 :: a2 :: a3 :: a4 :: a5 :: a6 :: a7 :: a8 :: a9 :: a10 :: a11 :: a12 :: a13 :: a14 :: a15 :: a16 :: a17 :: a18 :: a19 :: a20 :: some (.int v) :: tl) st M) : G q d x mc ms oc al cs ss pc (a0 :: a1 :: a2 :: a3 :: a4 :: a5 :: a6 :: a7 :: a8 :: a9 :: a10 :: a11 :: a12 :: a13 :: a14 :: a15 :: a16 :: a17 :: a18 :: a19 :: a20 :: a21 :: tl) (.int v :: st) M := by
  intro p l e R s m args below meth c H locs Q D nx nz ad ca A ls C hd hP hS hal hl
  obtain ⟨hx, hb, hml, hr, hown, hts, hK, hE, hA, hJ, hAd, hlk, hst, hRm, hmd⟩ := id C
  have hn9 : 21 < mL q := by have := hl.2.2.1; simp only [List.length_cons] at this; omega
  refine lv_istore hx hb h0 hl.has hn9 rfl (fun ls' hl' => ?_)
  exact k p l e R s m args below meth c H locs Q D nx nz ad ca A ls' C hd hP hS hal (lvOK.st1 (x := .int v) hl hn9 (fun j hj => by have h9 : j = 20 := (by omega); subst h9; exact hn) hl')
theorem r_istore22 {a0 a1 a2 a3 a4 a5 a6 a7 a8 a9 a10 a11 a12 a13 a14 a15 a16 a17 a18 a19 a20 a21 a22 : Option Value} {tl : List (Option Value)} {v : Int32} (h0 : dec q pc = .ok (.istore 22, 2)) (hn : nc a21 = true) (k : G q d x mc ms oc al cs ss (pc + 2) (a0 :: a1 :: a2 :: a3 :: a4 :: a5 :: a6 :: a7 :: a8 :: a9 :: a10 :: a11 :: a12 :: a13 :: a14 :: a15 :: a16 :: a17 :: a18 :: a19 :: a20 :: a21 :: some (.int v) :: tl) st M) : G q d x mc ms oc al cs ss pc (a0 :: a1 :: a2 :: a3 :: a4 :: a5 :: a6 :: a7 :: a8 :: a9 :: a10 :: a11 :: a12 :: a13 :: a14 :: a15 :: a16 :: a17 :: a18 :: a19 :: a20 :: a21 :: a22 :: tl) (.int v :: st) M := by
  intro p l e R s m args below meth c H locs Q D nx nz ad ca A ls C hd hP hS hal hl
  obtain ⟨hx, hb, hml, hr, hown, hts, hK, hE, hA, hJ, hAd, hlk, hst, hRm, hmd⟩ := id C
  have hn9 : 22 < mL q := by have := hl.2.2.1; simp only [List.length_cons] at this; omega
  refine lv_istore hx hb h0 hl.has hn9 rfl (fun ls' hl' => ?_)
  exact k p l e R s m args below meth c H locs Q D nx nz ad ca A ls' C hd hP hS hal (lvOK.st1 (x := .int v) hl hn9 (fun j hj => by have h9 : j = 21 := (by omega); subst h9; exact hn) hl')
theorem r_istore23 {a0 a1 a2 a3 a4 a5 a6 a7 a8 a9 a10 a11 a12 a13 a14 a15 a16 a17 a18 a19 a20 a21 a22 a23 : Option Value} {tl : List (Option Value)} {v : Int32} (h0 : dec q pc = .ok (.istore 23, 2)) (hn : nc a22 = true) (k : G q d x mc ms oc al cs ss (pc + 2) (a0 :: a1 :: a2 :: a3 :: a4 :: a5 :: a6 :: a7 :: a8 :: a9 :: a10 :: a11 :: a12 :: a13 :: a14 :: a15 :: a16 :: a17 :: a18 :: a19 :: a20 :: a21 :: a22 :: some (.int v) :: tl) st M) : G q d x mc ms oc al cs ss pc (a0 :: a1 :: a2 :: a3 :: a4 :: a5 :: a6 :: a7 :: a8 :: a9 :: a10 :: a11 :: a12 :: a13 :: a14 :: a15 :: a16 :: a17 :: a18 :: a19 :: a20 :: a21 :: a22 :: a23 :: tl) (.int v :: st) M := by
  intro p l e R s m args below meth c H locs Q D nx nz ad ca A ls C hd hP hS hal hl
  obtain ⟨hx, hb, hml, hr, hown, hts, hK, hE, hA, hJ, hAd, hlk, hst, hRm, hmd⟩ := id C
  have hn9 : 23 < mL q := by have := hl.2.2.1; simp only [List.length_cons] at this; omega
  refine lv_istore hx hb h0 hl.has hn9 rfl (fun ls' hl' => ?_)
  exact k p l e R s m args below meth c H locs Q D nx nz ad ca A ls' C hd hP hS hal (lvOK.st1 (x := .int v) hl hn9 (fun j hj => by have h9 : j = 22 := (by omega); subst h9; exact hn) hl')
theorem r_astore0 {a0 : Option Value} {tl : List (Option Value)} {v : Nat} (h0 : dec q pc = .ok (.astore_n 0, 1)) (k : G q d x mc ms oc al cs ss (pc + 1) (some (.ref v) :: tl) st M) : G q d x mc ms oc al cs ss pc (a0 :: tl) (.ref v :: st) M := by
  intro p l e R s m args below meth c H locs Q D nx nz ad ca A ls C hd hP hS hal hl
  obtain ⟨hx, hb, hml, hr, hown, hts, hK, hE, hA, hJ, hAd, hlk, hst, hRm, hmd⟩ := id C
  have hn9 : 0 < mL q := by have := hl.2.2.1; simp only [List.length_cons] at this; omega
  refine lv_astore_n hx hb h0 rfl hl.has hn9 rfl (fun ls' hl' => ?_)
  exact k p l e R s m args below meth c H locs Q D nx nz ad ca A ls' C hd hP hS hal (lvOK.st1 (x := .ref v) hl hn9 (fun j hj => absurd hj (by omega)) hl')
theorem r_astore1 {a0 a1 : Option Value} {tl : List (Option Value)} {v : Nat} (h0 : dec q pc = .ok (.astore_n 1, 1)) (hn : nc a0 = true) (k : G q d x mc ms oc al cs ss (pc + 1) (a0 :: some (.ref v) :: tl) st M) : G q d x mc ms oc al cs ss pc (a0 :: a1 :: tl) (.ref v :: st) M := by
  intro p l e R s m args below meth c H locs Q D nx nz ad ca A ls C hd hP hS hal hl
  obtain ⟨hx, hb, hml, hr, hown, hts, hK, hE, hA, hJ, hAd, hlk, hst, hRm, hmd⟩ := id C
  have hn9 : 1 < mL q := by have := hl.2.2.1; simp only [List.length_cons] at this; omega
  refine lv_astore_n hx hb h0 rfl hl.has hn9 rfl (fun ls' hl' => ?_)
  exact k p l e R s m args below meth c H locs Q D nx nz ad ca A ls' C hd hP hS hal (lvOK.st1 (x := .ref v) hl hn9 (fun j hj => by have h9 : j = 0 := (by omega); subst h9; exact hn) hl')
theorem r_astore2 {a0 a1 a2 : Option Value} {tl : List (Option Value)} {v : Nat} (h0 : dec q pc = .ok (.astore_n 2, 1)) (hn : nc a1 = true) (k : G q d x mc ms oc al cs ss (pc + 1) (a0 :: a1 :: some (.ref v) :: tl) st M) : G q d x mc ms oc al cs ss pc (a0 :: a1 :: a2 :: tl) (.ref v :: st) M := by
  intro p l e R s m args below meth c H locs Q D nx nz ad ca A ls C hd hP hS hal hl
  obtain ⟨hx, hb, hml, hr, hown, hts, hK, hE, hA, hJ, hAd, hlk, hst, hRm, hmd⟩ := id C
  have hn9 : 2 < mL q := by have := hl.2.2.1; simp only [List.length_cons] at this; omega
  refine lv_astore_n hx hb h0 rfl hl.has hn9 rfl (fun ls' hl' => ?_)
  exact k p l e R s m args below meth c H locs Q D nx nz ad ca A ls' C hd hP hS hal (lvOK.st1 (x := .ref v) hl hn9 (fun j hj => by have h9 : j = 1 := (by omega); subst h9; exact hn) hl')
theorem r_astore3 {a0 a1 a2 a3 : Option Value} {tl : List (Option Value)} {v : Nat} (h0 : dec q pc = .ok (.astore_n 3, 1)) (hn : nc a2 = true) (k : G q d x mc ms oc al cs ss (pc + 1) (a0 :: a1 :: a2 :: some (.ref v) :: tl) st M) : G q d x mc ms oc al cs ss pc (a0 :: a1 :: a2 :: a3 :: tl) (.ref v :: st) M := by
  intro p l e R s m args below meth c H locs Q D nx nz ad ca A ls C hd hP hS hal hl
  obtain ⟨hx, hb, hml, hr, hown, hts, hK, hE, hA, hJ, hAd, hlk, hst, hRm, hmd⟩ := id C
  have hn9 : 3 < mL q := by have := hl.2.2.1; simp only [List.length_cons] at this; omega
  refine lv_astore_n hx hb h0 rfl hl.has hn9 rfl (fun ls' hl' => ?_)
  exact k p l e R s m args below meth c H locs Q D nx nz ad ca A ls' C hd hP hS hal (lvOK.st1 (x := .ref v) hl hn9 (fun j hj => by have h9 : j = 2 := (by omega); subst h9; exact hn) hl')
theorem r_astore4 {a0 a1 a2 a3 a4 : Option Value} {tl : List (Option Value)} {v : Nat} (h0 : dec q pc = .ok (.astore 4, 2)) (hn : nc a3 = true) (k : G q d x mc ms oc al cs ss (pc + 2) (a0 :: a1 :: a2 :: a3 :: some (.ref v) :: tl) st M) : G q d x mc ms oc al cs ss pc (a0 :: a1 :: a2 :: a3 :: a4 :: tl) (.ref v :: st) M := by
  intro p l e R s m args below meth c H locs Q D nx nz ad ca A ls C hd hP hS hal hl
  obtain ⟨hx, hb, hml, hr, hown, hts, hK, hE, hA, hJ, hAd, hlk, hst, hRm, hmd⟩ := id C
  have hn9 : 4 < mL q := by have := hl.2.2.1; simp only [List.length_cons] at this; omega
  refine lv_astore hx hb h0 hl.has hn9 rfl (fun ls' hl' => ?_)
  exact k p l e R s m args below meth c H locs Q D nx nz ad ca A ls' C hd hP hS hal (lvOK.st1 (x := .ref v) hl hn9 (fun j hj => by have h9 : j = 3 := (by omega); subst h9; exact hn) hl')
theorem r_astore5 {a0 a1 a2 a3 a4 a5 : Option Value} {tl : List (Option Value)} {v : Nat} (h0 : dec q pc = .ok (.astore 5, 2)) (hn : nc a4 = true) (k : G q d x mc ms oc al cs ss (pc + 2) (a0 :: a1 :: a2 :: a3 :: a4 :: some (.ref v) :: tl) st M) : G q d x mc ms oc al cs ss pc (a0 :: a1 :: a2 :: a3 :: a4 :: a5 :: tl) (.ref v :: st) M := by
  intro p l e R s m args below meth c H locs Q D nx nz ad ca A ls C hd hP hS hal hl
  obtain ⟨hx, hb, hml, hr, hown, hts, hK, hE, hA, hJ, hAd, hlk, hst, hRm, hmd⟩ := id C
  have hn9 : 5 < mL q := by have := hl.2.2.1; simp only [List.length_cons] at this; omega
  refine lv_astore hx hb h0 hl.has hn9 rfl (fun ls' hl' => ?_)
  exact k p l e R s m args below meth c H locs Q D nx nz ad ca A ls' C hd hP hS hal (lvOK.st1 (x := .ref v) hl hn9 (fun j hj => by have h9 : j = 4 := (by omega); subst h9; exact hn) hl')
theorem r_astore6 {a0 a1 a2 a3 a4 a5 a6 : Option Value} {tl : List (Option Value)} {v : Nat} (h0 : dec q pc = .ok (.astore 6, 2)) (hn : nc a5 = true) (k : G q d x mc ms oc al cs ss (pc + 2) (a0 :: a1 :: a2 :: a3 :: a4 :: a5 :: some (.ref v) :: tl) st M) : G q d x mc ms oc al cs ss pc (a0 :: a1 :: a2 :: a3 :: a4 :: a5 :: a6 :: tl) (.ref v :: st) M := by
  intro p l e R s m args below meth c H locs Q D nx nz ad ca A ls C hd hP hS hal hl
  obtain ⟨hx, hb, hml, hr, hown, hts, hK, hE, hA, hJ, hAd, hlk, hst, hRm, hmd⟩ := id C
  have hn9 : 6 < mL q := by have := hl.2.2.1; simp only [List.length_cons] at this; omega
  refine lv_astore hx hb h0 hl.has hn9 rfl (fun ls' hl' => ?_)
  exact k p l e R s m args below meth c H locs Q D nx nz ad ca A ls' C hd hP hS hal (lvOK.st1 (x := .ref v) hl hn9 (fun j hj => by have h9 : j = 5 := (by omega); subst h9; exact hn) hl')
theorem r_astore7 {a0 a1 a2 a3 a4 a5 a6 a7 : Option Value} {tl : List (Option Value)} {v : Nat} (h0 : dec q pc = .ok (.astore 7, 2)) (hn : nc a6 = true) (k : G q d x mc ms oc al cs ss (pc + 2) (a0 :: a1 :: a2 :: a3 :: a4 :: a5 :: a6 :: some (.ref v) :: tl) st M) : G q d x mc ms oc al cs ss pc (a0 :: a1 :: a2 :: a3 :: a4 :: a5 :: a6 :: a7 :: tl) (.ref v :: st) M := by
  intro p l e R s m args below meth c H locs Q D nx nz ad ca A ls C hd hP hS hal hl
  obtain ⟨hx, hb, hml, hr, hown, hts, hK, hE, hA, hJ, hAd, hlk, hst, hRm, hmd⟩ := id C
  have hn9 : 7 < mL q := by have := hl.2.2.1; simp only [List.length_cons] at this; omega
  refine lv_astore hx hb h0 hl.has hn9 rfl (fun ls' hl' => ?_)
  exact k p l e R s m args below meth c H locs Q D nx nz ad ca A ls' C hd hP hS hal (lvOK.st1 (x := .ref v) hl hn9 (fun j hj => by have h9 : j = 6 := (by omega); subst h9; exact hn) hl')
theorem r_astore8 {a0 a1 a2 a3 a4 a5 a6 a7 a8 : Option Value} {tl : List (Option Value)} {v : Nat} (h0 : dec q pc = .ok (.astore 8, 2)) (hn : nc a7 = true) (k : G q d x mc ms oc al cs ss (pc + 2) (a0 :: a1 :: a2 :: a3 :: a4 :: a5 :: a6 :: a7 :: some (.ref v) :: tl) st M) : G q d x mc ms oc al cs ss pc (a0 :: a1 :: a2 :: a3 :: a4 :: a5 :: a6 :: a7 :: a8 :: tl) (.ref v :: st) M := by
  intro p l e R s m args below meth c H locs Q D nx nz ad ca A ls C hd hP hS hal hl
  obtain ⟨hx, hb, hml, hr, hown, hts, hK, hE, hA, hJ, hAd, hlk, hst, hRm, hmd⟩ := id C
  have hn9 : 8 < mL q := by have := hl.2.2.1; simp only [List.length_cons] at this; omega
  refine lv_astore hx hb h0 hl.has hn9 rfl (fun ls' hl' => ?_)
  exact k p l e R s m args below meth c H locs Q D nx nz ad ca A ls' C hd hP hS hal (lvOK.st1 (x := .ref v) hl hn9 (fun j hj => by have h9 : j = 7 := (by omega); subst h9; exact hn) hl')
theorem r_astore9 {a0 a1 a2 a3 a4 a5 a6 a7 a8 a9 : Option Value} {tl : List (Option Value)} {v : Nat} (h0 : dec q pc = .ok (.astore 9, 2)) (hn : nc a8 = true) (k : G q d x mc ms oc al cs ss (pc + 2) (a0 :: a1 :: a2 :: a3 :: a4 :: a5 :: a6 :: a7 :: a8 :: some (.ref v) :: tl) st M) : G q d x mc ms oc al cs ss pc (a0 :: a1 :: a2 :: a3 :: a4 :: a5 :: a6 :: a7 :: a8 :: a9 :: tl) (.ref v :: st) M := by
  intro p l e R s m args below meth c H locs Q D nx nz ad ca A ls C hd hP hS hal hl
  obtain ⟨hx, hb, hml, hr, hown, hts, hK, hE, hA, hJ, hAd, hlk, hst, hRm, hmd⟩ := id C
  have hn9 : 9 < mL q := by have := hl.2.2.1; simp only [List.length_cons] at this; omega
  refine lv_astore hx hb h0 hl.has hn9 rfl (fun ls' hl' => ?_)
  exact k p l e R s m args below meth c H locs Q D nx nz ad ca A ls' C hd hP hS hal (lvOK.st1 (x := .ref v) hl hn9 (fun j hj => by have h9 : j = 8 := (by omega); subst h9; exact hn) hl')
theorem r_astore10 {a0 a1 a2 a3 a4 a5 a6 a7 a8 a9 a10 : Option Value} {tl : List (Option Value)} {v : Nat} (h0 : dec q pc = .ok (.astore 10, 2)) (hn : nc a9 = true) (k : G q d x mc ms oc al cs ss (pc + 2) (a0 :: a1 :: a2 :: a3 :: a4 :: a5 :: a6 :: a7 :: a8 :: a9 :: some (.ref v) :: tl) st M) : G q d x mc ms oc al cs ss pc (a0 :: a1 :: a2 :: a3 :: a4 :: a5 :: a6 :: a7 :: a8 :: a9 :: a10 :: tl) (.ref v :: st) M := by
  intro p l e R s m args below meth c H locs Q D nx nz ad ca A ls C hd hP hS hal hl
  obtain ⟨hx, hb, hml, hr, hown, hts, hK, hE, hA, hJ, hAd, hlk, hst, hRm, hmd⟩ := id C
  have hn9 : 10 < mL q := by have := hl.2.2.1; simp only [List.length_cons] at this; omega
  refine lv_astore hx hb h0 hl.has hn9 rfl (fun ls' hl' => ?_)
  exact k p l e R s m args below meth c H locs Q D nx nz ad ca A ls' C hd hP hS hal (lvOK.st1 (x := .ref v) hl hn9 (fun j hj => by have h9 : j = 9 := (by omega); subst h9; exact hn) hl')
theorem r_astore11 {a0 a1 a2 a3 a4 a5 a6 a7 a8 a9 a10 a11 : Option Value} {tl : List (Option Value)} {v : Nat} (h0 : dec q pc = .ok (.astore 11, 2)) (hn : nc a10 = true) (k : G q d x mc ms oc al cs ss (pc + 2) (a0 :: a1 :: a2 :: a3 :: a4 :: a5 :: a6 :: a7 :: a8 :: a9 :: a10 :: some (.ref v) :: tl) st M) : G q d x mc ms oc al cs ss pc (a0 :: a1 :: a2 :: a3 :: a4 :: a5 :: a6 :: a7 :: a8 :: a9 :: a10 :: a11 :: tl) (.ref v :: st) M := by
  intro p l e R s m args below meth c H locs Q D nx nz ad ca A ls C hd hP hS hal hl
  obtain ⟨hx, hb, hml, hr, hown, hts, hK, hE, hA, hJ, hAd, hlk, hst, hRm, hmd⟩ := id C
  have hn9 : 11 < mL q := by have := hl.2.2.1; simp only [List.length_cons] at this; omega
  refine lv_astore hx hb h0 hl.has hn9 rfl (fun ls' hl' => ?_)
  exact k p l e R s m args below meth c H locs Q D nx nz ad ca A ls' C hd hP hS hal (lvOK.st1 (x := .ref v) hl hn9 (fun j hj => by have h9 : j = 10 := (by omega); subst h9; exact hn) hl')
theorem r_astore12 {a0 a1 a2 a3 a4 a5 a6 a7 a8 a9 a10 a11 a12 : Option Value} {tl : List (Option Value)} {v : Nat} (h0 : dec q pc = .ok (.astore 12, 2)) (hn : nc a11 = true) (k : G q d x mc ms oc al cs ss (pc + 2) (a0 :: a1 :: a2 :: a3 :: a4 :: a5 :: a6 :: a7 :: a8 :: a9 :: a10 :: a11 :: some (.ref v) :: tl) st M) : G q d x mc ms oc al cs ss pc (a0 :: a1 :: a2 :: a3 :: a4 :: a5 :: a6 :: a7 :: a8 :: a9 :: a10 :: a11 :: a12 :: tl) (.ref v :: st) M := by
  intro p l e R s m args below meth c H locs Q D nx nz ad ca A ls C hd hP hS hal hl
  obtain ⟨hx, hb, hml, hr, hown, hts, hK, hE, hA, hJ, hAd, hlk, hst, hRm, hmd⟩ := id C
  have hn9 : 12 < mL q := by have := hl.2.2.1; simp only [List.length_cons] at this; omega
  refine lv_astore hx hb h0 hl.has hn9 rfl (fun ls' hl' => ?_)
  exact k p l e R s m args below meth c H locs Q D nx nz ad ca A ls' C hd hP hS hal (lvOK.st1 (x := .ref v) hl hn9 (fun j hj => by have h9 : j = 11 := (by omega); subst h9; exact hn) hl')
theorem r_astore13 {a0 a1 a2 a3 a4 a5 a6 a7 a8 a9 a10 a11 a12 a13 : Option Value} {tl : List (Option Value)} {v : Nat} (h0 : dec q pc = .ok (.astore 13, 2)) (hn : nc a12 = true) (k : G q d x mc ms oc al cs ss (pc + 2) (a0 :: a1 :: a2 :: a3 :: a4 :: a5 :: a6 :: a7 :: a8 :: a9 :: a10 :: a11 :: a12 :: some (.ref v) :: tl) st M) : G q d x mc ms oc al cs ss pc (a0 :: a1 :: a2 :: a3 :: a4 :: a5 :: a6 :: a7 :: a8 :: a9 :: a10 :: a11 :: a12 :: a13 :: tl) (.ref v :: st) M := by
  intro p l e R s m args below meth c H locs Q D nx nz ad ca A ls C hd hP hS hal hl
  obtain ⟨hx, hb, hml, hr, hown, hts, hK, hE, hA, hJ, hAd, hlk, hst, hRm, hmd⟩ := id C
  have hn9 : 13 < mL q := by have := hl.2.2.1; simp only [List.length_cons] at this; omega
  refine lv_astore hx hb h0 hl.has hn9 rfl (fun ls' hl' => ?_)
  exact k p l e R s m args below meth c H locs Q D nx nz ad ca A ls' C hd hP hS hal (lvOK.st1 (x := .ref v) hl hn9 (fun j hj => by have h9 : j = 12 := (by omega); subst h9; exact hn) hl')
theorem r_astore14 {a0 a1 a2 a3 a4 a5 a6 a7 a8 a9 a10 a11 a12 a13 a14 : Option Value} {tl : List (Option Value)} {v : Nat} (h0 : dec q pc = .ok (.astore 14, 2)) (hn : nc a13 = true) (k : G q d x mc ms oc al cs ss (pc + 2) (a0 :: a1 :: a2 :: a3 :: a4 :: a5 :: a6 :: a7 :: a8 :: a9 :: a10 :: a11 :: a12 :: a13 :: some (.ref v) :: tl) st M) : G q d x mc ms oc al cs ss pc (a0 :: a1 :: a2 :: a3 :: a4 :: a5 :: a6 :: a7 :: a8 :: a9 :: a10 :: a11 :: a12 :: a13 :: a14 :: tl) (.ref v :: st) M := by
  intro p l e R s m args below meth c H locs Q D nx nz ad ca A ls C hd hP hS hal hl
  obtain ⟨hx, hb, hml, hr, hown, hts, hK, hE, hA, hJ, hAd, hlk, hst, hRm, hmd⟩ := id C
  have hn9 : 14 < mL q := by have := hl.2.2.1; simp only [List.length_cons] at this; omega
  refine lv_astore hx hb h0 hl.has hn9 rfl (fun ls' hl' => ?_)
  exact k p l e R s m args below meth c H locs Q D nx nz ad ca A ls' C hd hP hS hal (lvOK.st1 (x := .ref v) hl hn9 (fun j hj => by have h9 : j = 13 := (by omega); subst h9; exact hn) hl')
theorem r_astore15 {a0 a1 a2 a3 a4 a5 a6 a7 a8 a9 a10 a11 a12 a13 a14 a15 : Option Value} {tl : List (Option Value)} {v : Nat} (h0 : dec q pc = .ok (.astore 15, 2)) (hn : nc a14 = true) (k : G q d x mc ms oc al cs ss (pc + 2) (a0 :: a1 :: a2 :: a3 :: a4 :: a5 :: a6 :: a7 :: a8 :: a9 :: a10 :: a11 :: a12 :: a13 :: a14 :: some (.ref v) :: tl) st M) : G q d x mc ms oc al cs ss pc (a0 :: a1 :: a2 :: a3 :: a4 :: a5 :: a6 :: a7 :: a8 :: a9 :: a10 :: a11 :: a12 :: a13 :: a14 :: a15 :: tl) (.ref v :: st) M := by
  intro p l e R s m args below meth c H locs Q D nx nz ad ca A ls C hd hP hS hal hl
  obtain ⟨hx, hb, hml, hr, hown, hts, hK, hE, hA, hJ, hAd, hlk, hst, hRm, hmd⟩ := id C
  have hn9 : 15 < mL q := by have := hl.2.2.1; simp only [List.length_cons] at this; omega
  refine lv_astore hx hb h0 hl.has hn9 rfl (fun ls' hl' => ?_)
  exact k p l e R s m args below meth c H locs Q D nx nz ad ca A ls' C hd hP hS hal (lvOK.st1 (x := .ref v) hl hn9 (fun j hj => by have h9 : j = 14 := (by omega); subst h9; exact hn) hl')
theorem r_astore16 {a0 a1 a2 a3 a4 a5 a6 a7 a8 a9 a10 a11 a12 a13 a14 a15 a16 : Option Value} {tl : List (Option Value)} {v : Nat} (h0 : dec q pc = .ok (.astore 16, 2)) (hn : nc a15 = true) (k : G q d x mc ms oc al cs ss (pc + 2) (a0 :: a1 :: a2 :: a3 :: a4 :: a5 :: a6 :: a7 :: a8 :: a9 :: a10 :: a11 :: a12 :: a13 :: a14 :: a15 :: some (.ref v) :: tl) st M) : G q d x mc ms oc al cs ss pc (a0 :: a1 :: a2 :: a3 :: a4 :: a5 :: a6 :: a7 :: a8 :: a9 :: a10 :: a11 :: a12 :: a13 :: a14 :: a15 :: a16 :: tl) (.ref v :: st) M := by
  intro p l e R s m args below meth c H locs Q D nx nz ad ca A ls C hd hP hS hal hl
  obtain ⟨hx, hb, hml, hr, hown, hts, hK, hE, hA, hJ, hAd, hlk, hst, hRm, hmd⟩ := id C
  have hn9 : 16 < mL q := by have := hl.2.2.1; simp only [List.length_cons] at this; omega
  refine lv_astore hx hb h0 hl.has hn9 rfl (fun ls' hl' => ?_)
  exact k p l e R s m args below meth c H locs Q D nx nz ad ca A ls' C hd hP hS hal (lvOK.st1 (x := .ref v) hl hn9 (fun j hj => by have h9 : j = 15 := (by omega); subst h9; exact hn) hl')
theorem r_astore17 {a0 a1 a2 a3 a4 a5 a6 a7 a8 a9 a10 a11 a12 a13 a14 a15 a16 a17 : Option Value} {tl : List (Option Value)} {v : Nat} (h0 : dec q pc = .ok (.astore 17, 2)) (hn : nc a16 = true) (k : G q d x mc ms oc al cs ss (pc + 2) (a0 :: a1 :: a2 :: a3 :: a4 :: a5 :: a6 :: a7 :: a8 :: a9 :: a10 :: a11 :: a12 :: a13 :: a14 :: a15 :: a16 :: some (.ref v) :: tl) st M) : G q d x mc ms oc al cs ss pc (a0 :: a1 :: a2 :: a3 :: a4 :: a5 :: a6 :: a7 :: a8 :: a9 :: a10 :: a11 :: a12 :: a13 :: a14 :: a15 :: a16 :: a17 :: tl) (.ref v :: st) M := by
  intro p l e R s m args below meth c H locs Q D nx nz ad ca A ls C hd hP hS hal hl
  obtain ⟨hx, hb, hml, hr, hown, hts, hK, hE, hA, hJ, hAd, hlk, hst, hRm, hmd⟩ := id C
  have hn9 : 17 < mL q := by have := hl.2.2.1; simp only [List.length_cons] at this; omega
  refine lv_astore hx hb h0 hl.has hn9 rfl (fun ls' hl' => ?_)
  exact k p l e R s m args below meth c H locs Q D nx nz ad ca A ls' C hd hP hS hal (lvOK.st1 (x := .ref v) hl hn9 (fun j hj => by have h9 : j = 16 := (by omega); subst h9; exact hn) hl')
theorem r_astore18 {a0 a1 a2 a3 a4 a5 a6 a7 a8 a9 a10 a11 a12 a13 a14 a15 a16 a17 a18 : Option Value} {tl : List (Option Value)} {v : Nat} (h0 : dec q pc = .ok (.astore 18, 2)) (hn : nc a17 = true) (k : G q d x mc ms oc al cs ss (pc + 2) (a0 :: a1 :: a2 :: a3 :: a4 :: a5 :: a6 :: a7 :: a8 :: a9 :: a10 :: a11 :: a12 :: a13 :: a14 :: a15 :: a16 :: a17 :: some (.ref v) :: tl) st M) : G q d x mc ms oc al cs ss pc (a0 :: a1 :: a2 :: a3 :: a4 :: a5 :: a6 :: a7 :: a8 :: a9 :: a10 :: a11 :: a12 :: a13 :: a14 :: a15 :: a16 :: a17 :: a18 :: tl) (.ref v :: st) M := by
  intro p l e R s m args below meth c H locs Q D nx nz ad ca A ls C hd hP hS hal hl
  obtain ⟨hx, hb, hml, hr, hown, hts, hK, hE, hA, hJ, hAd, hlk, hst, hRm, hmd⟩ := id C
  have hn9 : 18 < mL q := by have := hl.2.2.1; simp only [List.length_cons] at this; omega
  refine lv_astore hx hb h0 hl.has hn9 rfl (fun ls' hl' => ?_)
  exact k p l e R s m args below meth c H locs Q D nx nz ad ca A ls' C hd hP hS hal (lvOK.st1 (x := .ref v) hl hn9 (fun j hj => by have h9 : j = 17 := (by omega); subst h9; exact hn) hl')
theorem r_astore19 {a0 a1 a2 a3 a4 a5 a6 a7 a8 a9 a10 a11 a12 a13 a14 a15 a16 a17 a18 a19 : Option Value} {tl : List (Option Value)} {v : Nat} (h0 : dec q pc = .ok (.astore 19, 2)) (hn : nc a18 = true) (k : G q d x mc ms oc al cs ss (pc + 2) (a0 :: a1 :: a2 :: a3 :: a4 :: a5 :: a6 :: a7 :: a8 :: a9 :: a10 :: a11 :: a12 :: a13 :: a14 :: a15 :: a16 :: a17 :: a18 :: some (.ref v) :: tl) st M) : G q d x mc ms oc al cs ss pc (a0 :: a1 :: a2 :: a3 :: a4 :: a5 :: a6 :: a7 :: a8 :: a9 :: a10 :: a11 :: a12 :: a13 :: a14 :: a15 :: a16 :: a17 :: a18 :: a19 :: tl) (.ref v :: st) M := by
  intro p l e R s m args below meth c H locs Q D nx nz ad ca A ls C hd hP hS hal hl
  obtain ⟨hx, hb, hml, hr, hown, hts, hK, hE, hA, hJ, hAd, hlk, hst, hRm, hmd⟩ := id C
  have hn9 : 19 < mL q := by have := hl.2.2.1; simp only [List.length_cons] at this; omega
  refine lv_astore hx hb h0 hl.has hn9 rfl (fun ls' hl' => ?_)
  exact k p l e R s m args below meth c H locs Q D nx nz ad ca A ls' C hd hP hS hal (lvOK.st1 (x := .ref v) hl hn9 (fun j hj => by have h9 : j = 18 := (by omega); subst h9; exact hn) hl')
theorem r_astore20 {a0 a1 a2 a3 a4 a5 a6 a7 a8 a9 a10 a11 a12 a13 a14 a15 a16 a17 a18 a19 a20 : Option Value} {tl : List (Option Value)} {v : Nat} (h0 : dec q pc = .ok (.astore 20, 2)) (hn : nc a19 = true) (k : G q d x mc ms oc al cs ss (pc + 2) (a0 :: a1 :: a2 :: a3 :: a4 :: a5 :: a6 :: a7 :: a8 :: a9 :: a10 :: a11 :: a12 :: a13 :: a14 :: a15 :: a16 :: a17 :: a18 :: a19 :: some (.ref v) :: tl) st M) : G q d x mc ms oc al cs ss pc (a0 :: a1 :: a2 :: a3 :: a4 :: a5 :: a6 :: a7 :: a8 :: a9 :: a10 :: a11 :: a12 :: a13 :: a14 :: a15 :: a16 :: a17 :: a18 :: a19 :: a20 :: tl) (.ref v :: st) M := by
  intro p l e R s m args below meth c H locs Q D nx nz ad ca A ls C hd hP hS hal hl
  obtain ⟨hx, hb, hml, hr, hown, hts, hK, hE, hA, hJ, hAd, hlk, hst, hRm, hmd⟩ := id C
  have hn9 : 20 < mL q := by have := hl.2.2.1; simp only [List.length_cons] at this; omega
  refine lv_astore hx hb h0 hl.has hn9 rfl (fun ls' hl' => ?_)
  exact k p l e R s m args below meth c H locs Q D nx nz ad ca A ls' C hd hP hS hal (lvOK.st1 (x := .ref v) hl hn9 (fun j hj => by have h9 : j = 19 := (by omega); subst h9; exact hn) hl')
theorem r_astore21 {a0 a1 a2 a3 a4 a5 a6 a7 a8 a9 a10 a11 a12 a13 a14 a15 a16 a17 a18 a19 a20 a21 : Option Value} {tl : List (Option Value)} {v : Nat} (h0 : dec q pc = .ok (.astore 21, 2)) (hn : nc a20 = true) (k : G q d x mc ms oc al cs ss (pc + 2) (a0 :: a1 :: a2 :: a3 :: a4 :: a5 :: a6 :: a7 :: a8 :: a9 :: a10 :: a11 :: a12 :: a13 :: a14 :: a15 :: a16 :: a17 :: a18 :: a19 :: a20 :: some (.ref v) :: tl) st M) : G q d x mc ms oc al cs ss pc (a0 :: a1 :: a2 :: a3 :: a4 :: a5 :: a6 :: a7 :: a8 :: a9 :: a10 :: a11 :: a12 :: a13 :: a14 :: a15 :: a16 :: a17 :: a18 :: a19 :: a20 :: a21 :: tl) (.ref v :: st) M := by
  intro p l e R s m args below meth c H locs Q D nx nz ad ca A ls C hd hP hS hal hl
  obtain ⟨hx, hb, hml, hr, hown, hts, hK, hE, hA, hJ, hAd, hlk, hst, hRm, hmd⟩ := id C
  have hn9 : 21 < mL q := by have := hl.2.2.1; simp only [List.length_cons] at this; omega
  refine lv_astore hx hb h0 hl.has hn9 rfl (fun ls' hl' => ?_)
  exact k p l e R s m args below meth c H locs Q D nx nz ad ca A ls' C hd hP hS hal (lvOK.st1 (x := .ref v) hl hn9 (fun j hj => by have h9 : j = 20 := (by omega); subst h9; exact hn) hl')
theorem r_astore22 {a0 a1 a2 a3 a4 a5 a6 a7 a8 a9 a10 a11 a12 a13 a14 a15 a16 a17 a18 a19 a20 a21 a22 : Option Value} {tl : List (Option Value)} {v : Nat} (h0 : dec q pc = .ok (.astore 22, 2)) (hn : nc a21 = true) (k : G q d x mc ms oc al cs ss (pc + 2) (a0 :: a1 :: a2 :: a3 :: a4 :: a5 :: a6 :: a7 :: a8 :: a9 :: a10 :: a11 :: a12 :: a13 :: a14 :: a15 :: a16 :: a17 :: a18 :: a19 :: a20 :: a21 :: some (.ref v) :: tl) st M) : G q d x mc ms oc al cs ss pc (a0 :: a1 :: a2 :: a3 :: a4 :: a5 :: a6 :: a7 :: a8 :: a9 :: a10 :: a11 :: a12 :: a13 :: a14 :: a15 :: a16 :: a17 :: a18 :: a19 :: a20 :: a21 :: a22 :: tl) (.ref v :: st) M := by
  intro p l e R s m args below meth c H locs Q D nx nz ad ca A ls C hd hP hS hal hl
  obtain ⟨hx, hb, hml, hr, hown, hts, hK, hE, hA, hJ, hAd, hlk, hst, hRm, hmd⟩ := id C
  have hn9 : 22 < mL q := by have := hl.2.2.1; simp only [List.length_cons] at this; omega
  refine lv_astore hx hb h0 hl.has hn9 rfl (fun ls' hl' => ?_)
  exact k p l e R s m args below meth c H locs Q D nx nz ad ca A ls' C hd hP hS hal (lvOK.st1 (x := .ref v) hl hn9 (fun j hj => by have h9 : j = 21 := (by omega); subst h9; exact hn) hl')
theorem r_astore23 {a0 a1 a2 a3 a4 a5 a6 a7 a8 a9 a10 a11 a12 a13 a14 a15 a16 a17 a18 a19 a20 a21 a22 a23 : Option Value} {tl : List (Option Value)} {v : Nat} (h0 : dec q pc = .ok (.astore 23, 2)) (hn : nc a22 = true) (k : G q d x mc ms oc al cs ss (pc + 2) (a0 :: a1 :: a2 :: a3 :: a4 :: a5 :: a6 :: a7 :: a8 :: a9 :: a10 :: a11 :: a12 :: a13 :: a14 :: a15 :: a16 :: a17 :: a18 :: a19 :: a20 :: a21 :: a22 :: some (.ref v) :: tl) st M) : G q d x mc ms oc al cs ss pc (a0 :: a1 :: a2 :: a3 :: a4 :: a5 :: a6 :: a7 :: a8 :: a9 :: a10 :: a11 :: a12 :: a13 :: a14 :: a15 :: a16 :: a17 :: a18 :: a19 :: a20 :: a21 :: a22 :: a23 :: tl) (.ref v :: st) M := by
  intro p l e R s m args below meth c H locs Q D nx nz ad ca A ls C hd hP hS hal hl
  obtain ⟨hx, hb, hml, hr, hown, hts, hK, hE, hA, hJ, hAd, hlk, hst, hRm, hmd⟩ := id C
  have hn9 : 23 < mL q := by have := hl.2.2.1; simp only [List.length_cons] at this; omega
  refine lv_astore hx hb h0 hl.has hn9 rfl (fun ls' hl' => ?_)
  exact k p l e R s m args below meth c H locs Q D nx nz ad ca A ls' C hd hP hS hal (lvOK.st1 (x := .ref v) hl hn9 (fun j hj => by have h9 : j = 22 := (by omega); subst h9; exact hn) hl')
theorem r_lstore0 {a0 a1 : Option Value} {tl : List (Option Value)} {v : Int64} (h0 : dec q pc = .ok (.lstore_n 0, 1)) (k : G q d x mc ms oc al cs ss (pc + 1) (some (.long v) :: none :: tl) st M) : G q d x mc ms oc al cs ss pc (a0 :: a1 :: tl) (.long v :: st) M := by
  intro p l e R s m args below meth c H locs Q D nx nz ad ca A ls C hd hP hS hal hl
  obtain ⟨hx, hb, hml, hr, hown, hts, hK, hE, hA, hJ, hAd, hlk, hst, hRm, hmd⟩ := id C
  have hn9 : 0 + 1 < mL q := by have := hl.2.2.1; simp only [List.length_cons] at this; omega
  refine lv_lstore_n hx hb h0 rfl hl.has hn9 rfl (fun ls' hl' => ?_)
  exact k p l e R s m args below meth c H locs Q D nx nz ad ca A ls' C hd hP hS hal (lvOK.st2 (x := .long v) hl hn9 (fun j hj => absurd hj (by omega)) hl')
theorem r_lstore1 {a0 a1 a2 : Option Value} {tl : List (Option Value)} {v : Int64} (h0 : dec q pc = .ok (.lstore_n 1, 1)) (hn : nc a0 = true) (k : G q d x mc ms oc al cs ss (pc + 1) (a0 :: some (.long v) :: none :: tl) st M) : G q d x mc ms oc al cs ss pc (a0 :: a1 :: a2 :: tl) (.long v :: st) M := by
  intro p l e R s m args below meth c H locs Q D nx nz ad ca A ls C hd hP hS hal hl
  obtain ⟨hx, hb, hml, hr, hown, hts, hK, hE, hA, hJ, hAd, hlk, hst, hRm, hmd⟩ := id C
  have hn9 : 1 + 1 < mL q := by have := hl.2.2.1; simp only [List.length_cons] at this; omega
  refine lv_lstore_n hx hb h0 rfl hl.has hn9 rfl (fun ls' hl' => ?_)
  exact k p l e R s m args below meth c H locs Q D nx nz ad ca A ls' C hd hP hS hal (lvOK.st2 (x := .long v) hl hn9 (fun j hj => by have h9 : j = 0 := (by omega); subst h9; exact hn) hl')
theorem r_lstore2 {a0 a1 a2 a3 : Option Value} {tl : List (Option Value)} {v : Int64} (h0 : dec q pc = .ok (.lstore_n 2, 1)) (hn : nc a1 = true) (k : G q d x mc ms oc al cs ss (pc + 1) (a0 :: a1 :: some (.long v) :: none :: tl) st M) : G q d x mc ms oc al cs ss pc (a0 :: a1 :: a2 :: a3 :: tl) (.long v :: st) M := by
  intro p l e R s m args below meth c H locs Q D nx nz ad ca A ls C hd hP hS hal hl
  obtain ⟨hx, hb, hml, hr, hown, hts, hK, hE, hA, hJ, hAd, hlk, hst, hRm, hmd⟩ := id C
  have hn9 : 2 + 1 < mL q := by have := hl.2.2.1; simp only [List.length_cons] at this; omega
  refine lv_lstore_n hx hb h0 rfl hl.has hn9 rfl (fun ls' hl' => ?_)
  exact k p l e R s m args below meth c H locs Q D nx nz ad ca A ls' C hd hP hS hal (lvOK.st2 (x := .long v) hl hn9 (fun j hj => by have h9 : j = 1 := (by omega); subst h9; exact hn) hl')
theorem r_lstore3 {a0 a1 a2 a3 a4 : Option Value} {tl : List (Option Value)} {v : Int64} (h0 : dec q pc = .ok (.lstore_n 3, 1)) (hn : nc a2 = true) (k : G q d x mc ms oc al cs ss (pc + 1) (a0 :: a1 :: a2 :: some (.long v) :: none :: tl) st M) : G q d x mc ms oc al cs ss pc (a0 :: a1 :: a2 :: a3 :: a4 :: tl) (.long v :: st) M := by
  intro p l e R s m args below meth c H locs Q D nx nz ad ca A ls C hd hP hS hal hl
  obtain ⟨hx, hb, hml, hr, hown, hts, hK, hE, hA, hJ, hAd, hlk, hst, hRm, hmd⟩ := id C
  have hn9 : 3 + 1 < mL q := by have := hl.2.2.1; simp only [List.length_cons] at this; omega
  refine lv_lstore_n hx hb h0 rfl hl.has hn9 rfl (fun ls' hl' => ?_)
  exact k p l e R s m args below meth c H locs Q D nx nz ad ca A ls' C hd hP hS hal (lvOK.st2 (x := .long v) hl hn9 (fun j hj => by have h9 : j = 2 := (by omega); subst h9; exact hn) hl')
theorem r_lstore4 {a0 a1 a2 a3 a4 a5 : Option Value} {tl : List (Option Value)} {v : Int64} (h0 : dec q pc = .ok (.lstore 4, 2)) (hn : nc a3 = true) (k : G q d x mc ms oc al cs ss (pc + 2) (a0 :: a1 :: a2 :: a3 :: some (.long v) :: none :: tl) st M) : G q d x mc ms oc al cs ss pc (a0 :: a1 :: a2 :: a3 :: a4 :: a5 :: tl) (.long v :: st) M := by
  intro p l e R s m args below meth c H locs Q D nx nz ad ca A ls C hd hP hS hal hl
  obtain ⟨hx, hb, hml, hr, hown, hts, hK, hE, hA, hJ, hAd, hlk, hst, hRm, hmd⟩ := id C
  have hn9 : 4 + 1 < mL q := by have := hl.2.2.1; simp only [List.length_cons] at this; omega
  refine lv_lstore hx hb h0 hl.has hn9 rfl (fun ls' hl' => ?_)
  exact k p l e R s m args below meth c H locs Q D nx nz ad ca A ls' C hd hP hS hal (lvOK.st2 (x := .long v) hl hn9 (fun j hj => by have h9 : j = 3 := (by omega); subst h9; exact hn) hl')
theorem r_lstore5 {a0 a1 a2 a3 a4 a5 a6 : Option Value} {tl : List (Option Value)} {v : Int64} (h0 : dec q pc = .ok (.lstore 5, 2)) (hn : nc a4 = true) (k : G q d x mc ms oc al cs ss (pc + 2) (a0 :: a1 :: a2 :: a3 :: a4 :: some (.long v) :: none :: tl) st M) : G q d x mc ms oc al cs ss pc (a0 :: a1 :: a2 :: a3 :: a4 :: a5 :: a6 :: tl) (.long v :: st) M := by
  intro p l e R s m args below meth c H locs Q D nx nz ad ca A ls C hd hP hS hal hl
  obtain ⟨hx, hb, hml, hr, hown, hts, hK, hE, hA, hJ, hAd, hlk, hst, hRm, hmd⟩ := id C
  have hn9 : 5 + 1 < mL q := by have := hl.2.2.1; simp only [List.length_cons] at this; omega
  refine lv_lstore hx hb h0 hl.has hn9 rfl (fun ls' hl' => ?_)
  exact k p l e R s m args below meth c H locs Q D nx nz ad ca A ls' C hd hP hS hal (lvOK.st2 (x := .long v) hl hn9 (fun j hj => by have h9 : j = 4 := (by omega); subst h9; exact hn) hl')
theorem r_lstore6 {a0 a1 a2 a3 a4 a5 a6 a7 : Option Value} {tl : List (Option Value)} {v : Int64} (h0 : dec q pc = .ok (.lstore 6, 2)) (hn : nc a5 = true) (k : G q d x mc ms oc al cs ss (pc + 2) (a0 :: a1 :: a2 :: a3 :: a4 :: a5 :: some (.long v) :: none :: tl) st M) : G q d x mc ms oc al cs ss pc (a0 :: a1 :: a2 :: a3 :: a4 :: a5 :: a6 :: a7 :: tl) (.long v :: st) M := by
  intro p l e R s m args below meth c H locs Q D nx nz ad ca A ls C hd hP hS hal hl
  obtain ⟨hx, hb, hml, hr, hown, hts, hK, hE, hA, hJ, hAd, hlk, hst, hRm, hmd⟩ := id C
  have hn9 : 6 + 1 < mL q := by have := hl.2.2.1; simp only [List.length_cons] at this; omega
  refine lv_lstore hx hb h0 hl.has hn9 rfl (fun ls' hl' => ?_)
  exact k p l e R s m args below meth c H locs Q D nx nz ad ca A ls' C hd hP hS hal (lvOK.st2 (x := .long v) hl hn9 (fun j hj => by have h9 : j = 5 := (by omega); subst h9; exact hn) hl')
theorem r_lstore7 {a0 a1 a2 a3 a4 a5 a6 a7 a8 : Option Value} {tl : List (Option Value)} {v : Int64} (h0 : dec q pc = .ok (.lstore 7, 2)) (hn : nc a6 = true) (k : G q d x mc ms oc al cs ss (pc + 2) (a0 :: a1 :: a2 :: a3 :: a4 :: a5 :: a6 :: some (.long v) :: none :: tl) st M) : G q d x mc ms oc al cs ss pc (a0 :: a1 :: a2 :: a3 :: a4 :: a5 :: a6 :: a7 :: a8 :: tl) (.long v :: st) M := by
  intro p l e R s m args below meth c H locs Q D nx nz ad ca A ls C hd hP hS hal hl
  obtain ⟨hx, hb, hml, hr, hown, hts, hK, hE, hA, hJ, hAd, hlk, hst, hRm, hmd⟩ := id C
  have hn9 : 7 + 1 < mL q := by have := hl.2.2.1; simp only [List.length_cons] at this; omega
  refine lv_lstore hx hb h0 hl.has hn9 rfl (fun ls' hl' => ?_)
  exact k p l e R s m args below meth c H locs Q D nx nz ad ca A ls' C hd hP hS hal (lvOK.st2 (x := .long v) hl hn9 (fun j hj => by have h9 : j = 6 := (by omega); subst h9; exact hn) hl')
theorem r_lstore8 {a0 a1 a2 a3 a4 a5 a6 a7 a8 a9 : Option Value} {tl : List (Option Value)} {v : Int64} (h0 : dec q pc = .ok (.lstore 8, 2)) (hn : nc a7 = true) (k : G q d x mc ms oc al cs ss (pc + 2) (a0 :: a1 :: a2 :: a3 :: a4 :: a5 :: a6 :: a7 :: some (.long v) :: none :: tl) st M) : G q d x mc ms oc al cs ss pc (a0 :: a1 :: a2 :: a3 :: a4 :: a5 :: a6 :: a7 :: a8 :: a9 :: tl) (.long v :: st) M := by
  intro p l e R s m args below meth c H locs Q D nx nz ad ca A ls C hd hP hS hal hl
  obtain ⟨hx, hb, hml, hr, hown, hts, hK, hE, hA, hJ, hAd, hlk, hst, hRm, hmd⟩ := id C
  have hn9 : 8 + 1 < mL q := by have := hl.2.2.1; simp only [List.length_cons] at this; omega
  refine lv_lstore hx hb h0 hl.has hn9 rfl (fun ls' hl' => ?_)
  exact k p l e R s m args below meth c H locs Q D nx nz ad ca A ls' C hd hP hS hal (lvOK.st2 (x := .long v) hl hn9 (fun j hj => by have h9 : j = 7 := (by omega); subst h9; exact hn) hl')
theorem r_lstore9 {a0 a1 a2 a3 a4 a5 a6 a7 a8 a9 a10 : Option Value} {tl : List (Option Value)} {v : Int64} (h0 : dec q pc = .ok (.lstore 9, 2)) (hn : nc a8 = true) (k : G q d x mc ms oc al cs ss (pc + 2) (a0 :: a1 :: a2 :: a3 :: a4 :: a5 :: a6 :: a7 :: a8 :: some (.long v) :: none :: tl) st M) : G q d x mc ms oc al cs ss pc (a0 :: a1 :: a2 :: a3 :: a4 :: a5 :: a6 :: a7 :: a8 :: a9 :: a10 :: tl) (.long v :: st) M := by
  intro p l e R s m args below meth c H locs Q D nx nz ad ca A ls C hd hP hS hal hl
  obtain ⟨hx, hb, hml, hr, hown, hts, hK, hE, hA, hJ, hAd, hlk, hst, hRm, hmd⟩ := id C
  have hn9 : 9 + 1 < mL q := by have := hl.2.2.1; simp only [List.length_cons] at this; omega
  refine lv_lstore hx hb h0 hl.has hn9 rfl (fun ls' hl' => ?_)
  exact k p l e R s m args below meth c H locs Q D nx nz ad ca A ls' C hd hP hS hal (lvOK.st2 (x := .long v) hl hn9 (fun j hj => by have h9 : j = 8 := (by omega); subst h9; exact hn) hl')
theorem r_lstore10 {a0 a1 a2 a3 a4 a5 a6 a7 a8 a9 a10 a11 : Option Value} {tl : List (Option Value)} {v : Int64} (h0 : dec q pc = .ok (.lstore 10, 2)) (hn : nc a9 = true) (k : G q d x mc ms oc al cs ss (pc + 2) (a0 :: a1 :: a2 :: a3 :: a4 :: a5 :: a6 :: a7 :: a8 :: a9 :: some (.long v) :: none :: tl) st M) : G q d x mc ms oc al cs ss pc (a0 :: a1 :: a2 :: a3 :: a4 :: a5 :: a6 :: a7 :: a8 :: a9 :: a10 :: a11 :: tl) (.long v :: st) M := by
  intro p l e R s m args below meth c H locs Q D nx nz ad ca A ls C hd hP hS hal hl
  obtain ⟨hx, hb, hml, hr, hown, hts, hK, hE, hA, hJ, hAd, hlk, hst, hRm, hmd⟩ := id C
  have hn9 : 10 + 1 < mL q := by have := hl.2.2.1; simp only [List.length_cons] at this; omega
  refine lv_lstore hx hb h0 hl.has hn9 rfl (fun ls' hl' => ?_)
  exact k p l e R s m args below meth c H locs Q D nx nz ad ca A ls' C hd hP hS hal (lvOK.st2 (x := .long v) hl hn9 (fun j hj => by have h9 : j = 9 := (by omega); subst h9; exact hn) hl')
theorem r_lstore11 {a0 a1 a2 a3 a4 a5 a6 a7 a8 a9 a10 a11 a12 : Option Value} {tl : List (Option Value)} {v : Int64} (h0 : dec q pc = .ok (.lstore 11, 2)) (hn : nc a10 = true) (k : G q d x mc ms oc al cs ss (pc + 2) (a0 :: a1 :: a2 :: a3 :: a4 :: a5 :: a6 :: a7 :: a8 :: a9 :: a10 :: some (.long v) :: none :: tl) st M) : G q d x mc ms oc al cs ss pc (a0 :: a1 :: a2 :: a3 :: a4 :: a5 :: a6 :: a7 :: a8 :: a9 :: a10 :: a11 :: a12 :: tl) (.long v :: st) M := by
  intro p l e R s m args below meth c H locs Q D nx nz ad ca A ls C hd hP hS hal hl
  obtain ⟨hx, hb, hml, hr, hown, hts, hK, hE, hA, hJ, hAd, hlk, hst, hRm, hmd⟩ := id C
  have hn9 : 11 + 1 < mL q := by have := hl.2.2.1; simp only [List.length_cons] at this; omega
  refine lv_lstore hx hb h0 hl.has hn9 rfl (fun ls' hl' => ?_)
  exact k p l e R s m args below meth c H locs Q D nx nz ad ca A ls' C hd hP hS hal (lvOK.st2 (x := .long v) hl hn9 (fun j hj => by have h9 : j = 10 := (by omega); subst h9; exact hn) hl')
theorem r_lstore12 {a0 a1 a2 a3 a4 a5 a6 a7 a8 a9 a10 a11 a12 a13 : Option Value} {tl : List (Option Value)} {v : Int64} (h0 : dec q pc = .ok (.lstore 12, 2)) (hn : nc a11 = true) (k : G q d x mc ms oc al cs ss (pc + 2) (a0 :: a1 :: a2 :: a3 :: a4 :: a5 :: a6 :: a7 :: a8 :: a9 :: a10 :: a11 :: some (.long v) :: none :: tl) st M) : G q d x mc ms oc al cs ss pc (a0 :: a1 :: a2 :: a3 :: a4 :: a5 :: a6 :: a7 :: a8 :: a9 :: a10 :: a11 :: a12 :: a13 :: tl) (.long v :: st) M := by
  intro p l e R s m args below meth c H locs Q D nx nz ad ca A ls C hd hP hS hal hl
  obtain ⟨hx, hb, hml, hr, hown, hts, hK, hE, hA, hJ, hAd, hlk, hst, hRm, hmd⟩ := id C
  have hn9 : 12 + 1 < mL q := by have := hl.2.2.1; simp only [List.length_cons] at this; omega
  refine lv_lstore hx hb h0 hl.has hn9 rfl (fun ls' hl' => ?_)
  exact k p l e R s m args below meth c H locs Q D nx nz ad ca A ls' C hd hP hS hal (lvOK.st2 (x := .long v) hl hn9 (fun j hj => by have h9 : j = 11 := (by omega); subst h9; exact hn) hl')
theorem r_lstore13 {a0 a1 a2 a3 a4 a5 a6 a7 a8 a9 a10 a11 a12 a13 a14 : Option Value} {tl : List (Option Value)} {v : Int64} (h0 : dec q pc = .ok (.lstore 13, 2)) (hn : nc a12 = true) (k : G q d x mc ms oc al cs ss (pc + 2) (a0 :: a1 :: a2 :: a3 :: a4 :: a5 :: a6 :: a7 :: a8 :: a9 :: a10 :: a11 :: a12 :: some (.long v) :: none :: tl) st M) : G q d x mc ms oc al cs ss pc (a0 :: a1 :: a2 :: a3 :: a4 :: a5 :: a6 :: a7 :: a8 :: a9 :: a10 :: a11 :: a12 :: a13 :: a14 :: tl) (.long v :: st) M := by
  intro p l e R s m args below meth c H locs Q D nx nz ad ca A ls C hd hP hS hal hl
  obtain ⟨hx, hb, hml, hr, hown, hts, hK, hE, hA, hJ, hAd, hlk, hst, hRm, hmd⟩ := id C
  have hn9 : 13 + 1 < mL q := by have := hl.2.2.1; simp only [List.length_cons] at this; omega
  refine lv_lstore hx hb h0 hl.has hn9 rfl (fun ls' hl' => ?_)
  exact k p l e R s m args below meth c H locs Q D nx nz ad ca A ls' C hd hP hS hal (lvOK.st2 (x := .long v) hl hn9 (fun j hj => by have h9 : j = 12 := (by omega); subst h9; exact hn) hl')
theorem r_lstore14 {a0 a1 a2 a3 a4 a5 a6 a7 a8 a9 a10 a11 a12 a13 a14 a15 : Option Value} {tl : List (Option Value)} {v : Int64} (h0 : dec q pc = .ok (.lstore 14, 2)) (hn : nc a13 = true) (k : G q d x mc ms oc al cs ss (pc + 2) (a0 :: a1 :: a2 :: a3 :: a4 :: a5 :: a6 :: a7 :: a8 :: a9 :: a10 :: a11 :: a12 :: a13 :: some (.long v) :: none :: tl) st M) : G q d x mc ms oc al cs ss pc (a0 :: a1 :: a2 :: a3 :: a4 :: a5 :: a6 :: a7 :: a8 :: a9 :: a10 :: a11 :: a12 :: a13 :: a14 :: a15 :: tl) (.long v :: st) M := by
  intro p l e R s m args below meth c H locs Q D nx nz ad ca A ls C hd hP hS hal hl
  obtain ⟨hx, hb, hml, hr, hown, hts, hK, hE, hA, hJ, hAd, hlk, hst, hRm, hmd⟩ := id C
  have hn9 : 14 + 1 < mL q := by have := hl.2.2.1; simp only [List.length_cons] at this; omega
  refine lv_lstore hx hb h0 hl.has hn9 rfl (fun ls' hl' => ?_)
  exact k p l e R s m args below meth c H locs Q D nx nz ad ca A ls' C hd hP hS hal (lvOK.st2 (x := .long v) hl hn9 (fun j hj => by have h9 : j = 13 := (by omega); subst h9; exact hn) hl')
theorem r_lstore15 {a0 a1 a2 a3 a4 a5 a6 a7 a8 a9 a10 a11 a12 a13 a14 a15 a16 : Option Value} {tl : List (Option Value)} {v : Int64} (h0 : dec q pc = .ok (.lstore 15, 2)) (hn : nc a14 = true) (k : G q d x mc ms oc al cs ss (pc + 2) (a0 :: a1 :: a2 :: a3 :: a4 :: a5 :: a6 :: a7 :: a8 :: a9 :: a10 :: a11 :: a12 :: a13 :: a14 :: some (.long v) :: none :: tl) st M) : G q d x mc ms oc al cs ss pc (a0 :: a1 :: a2 :: a3 :: a4 :: a5 :: a6 :: a7 :: a8 :: a9 :: a10 :: a11 :: a12 :: a13 :: a14 :: a15 :: a16 :: tl) (.long v :: st) M := by
  intro p l e R s m args below meth c H locs Q D nx nz ad ca A ls C hd hP hS hal hl
  obtain ⟨hx, hb, hml, hr, hown, hts, hK, hE, hA, hJ, hAd, hlk, hst, hRm, hmd⟩ := id C
  have hn9 : 15 + 1 < mL q := by have := hl.2.2.1; simp only [List.length_cons] at this; omega
  refine lv_lstore hx hb h0 hl.has hn9 rfl (fun ls' hl' => ?_)
  exact k p l e R s m args below meth c H locs Q D nx nz ad ca A ls' C hd hP hS hal (lvOK.st2 (x := .long v) hl hn9 (fun j hj => by have h9 : j = 14 := (by omega); subst h9; exact hn) hl')
theorem r_lstore16 {a0 a1 a2 a3 a4 a5 a6 a7 a8 a9 a10 a11 a12 a13 a14 a15 a16 a17 : Option Value} {tl : List (Option Value)} {v : Int64} (h0 : dec q pc = .ok (.lstore 16, 2)) (hn : nc a15 = true) (k : G q d x mc ms oc al cs ss (pc + 2) (a0 :: a1 :: a2 :: a3 :: a4 :: a5 :: a6 :: a7 :: a8 :: a9 :: a10 :: a11 :: a12 :: a13 :: a14 :: a15 :: some (.long v) :: none :: tl) st M) : G q d x mc ms oc al cs ss pc (a0 :: a1 :: a2 :: a3 :: a4 :: a5 :: a6 :: a7 :: a8 :: a9 :: a10 :: a11 :: a12 :: a13 :: a14 :: a15 :: a16 :: a17 :: tl) (.long v :: st) M := by
  intro p l e R s m args below meth c H locs Q D nx nz ad ca A ls C hd hP hS hal hl
  obtain ⟨hx, hb, hml, hr, hown, hts, hK, hE, hA, hJ, hAd, hlk, hst, hRm, hmd⟩ := id C
  have hn9 : 16 + 1 < mL q := by have := hl.2.2.1; simp only [List.length_cons] at this; omega
  refine lv_lstore hx hb h0 hl.has hn9 rfl (fun ls' hl' => ?_)
  exact k p l e R s m args below meth c H locs Q D nx nz ad ca A ls' C hd hP hS hal (lvOK.st2 (x := .long v) hl hn9 (fun j hj => by have h9 : j = 15 := (by omega); subst h9; exact hn) hl')
theorem r_lstore17 {a0 a1 a2 a3 a4 a5 a6 a7 a8 a9 a10 a11 a12 a13 a14 a15 a16 a17 a18 : Option Value} {tl : List (Option Value)} {v : Int64} (h0 : dec q pc = .ok (.lstore 17, 2)) (hn : nc a16 = true) (k : G q d x mc ms oc al cs ss (pc + 2) (a0 :: a1 :: a2 :: a3 :: a4 :: a5 :: a6 :: a7 :: a8 :: a9 :: a10 :: a11 :: a12 :: a13 :: a14 :: a15 :: a16 :: some (.long v) :: none :: tl) st M) : G q d x mc ms oc al cs ss pc (a0 :: a1 :: a2 :: a3 :: a4 :: a5 :: a6 :: a7 :: a8 :: a9 :: a10 :: a11 :: a12 :: a13 :: a14 :: a15 :: a16 :: a17 :: a18 :: tl) (.long v :: st) M := by
  intro p l e R s m args below meth c H locs Q D nx nz ad ca A ls C hd hP hS hal hl
  obtain ⟨hx, hb, hml, hr, hown, hts, hK, hE, hA, hJ, hAd, hlk, hst, hRm, hmd⟩ := id C
  have hn9 : 17 + 1 < mL q := by have := hl.2.2.1; simp only [List.length_cons] at this; omega
  refine lv_lstore hx hb h0 hl.has hn9 rfl (fun ls' hl' => ?_)
  exact k p l e R s m args below meth c H locs Q D nx nz ad ca A ls' C hd hP hS hal (lvOK.st2 (x := .long v) hl hn9 (fun j hj => by have h9 : j = 16 := (by omega); subst h9; exact hn) hl')
theorem r_lstore18 {a0 a1 a2 a3 a4 a5 a6 a7 a8 a9 a10 a11 a12 a13 a14 a15 a16 a17 a18 a19 : Option Value} {tl : List (Option Value)} {v : Int64} (h0 : dec q pc = .ok (.lstore 18, 2)) (hn : nc a17 = true) (k : G q d x mc ms oc al cs ss (pc + 2) (a0 :: a1 :: a2 :: a3 :: a4 :: a5 :: a6 :: a7 :: a8 :: a9 :: a10 :: a11 :: a12 :: a13 :: a14 :: a15 :: a16 :: a17 :: some (.long v) :: none :: tl) st M) : G q d x mc ms oc al cs ss pc (a0 :: a1 :: a2 :: a3 :: a4 :: a5 :: a6 :: a7 :: a8 :: a9 :: a10 :: a11 :: a12 :: a13 :: a14 :: a15 :: a16 :: a17 :: a18 :: a19 :: tl) (.long v :: st) M := by
  intro p l e R s m args below meth c H locs Q D nx nz ad ca A ls C hd hP hS hal hl
  obtain ⟨hx, hb, hml, hr, hown, hts, hK, hE, hA, hJ, hAd, hlk, hst, hRm, hmd⟩ := id C
  have hn9 : 18 + 1 < mL q := by have := hl.2.2.1; simp only [List.length_cons] at this; omega
  refine lv_lstore hx hb h0 hl.has hn9 rfl (fun ls' hl' => ?_)
  exact k p l e R s m args below meth c H locs Q D nx nz ad ca A ls' C hd hP hS hal (lvOK.st2 (x := .long v) hl hn9 (fun j hj => by have h9 : j = 17 := (by omega); subst h9; exact hn) hl')
theorem r_lstore19 {a0 a1 a2 a3 a4 a5 a6 a7 a8 a9 a10 a11 a12 a13 a14 a15 a16 a17 a18 a19 a20 : Option Value} {tl : List (Option Value)} {v : Int64} (h0 : dec q pc = .ok (.lstore 19, 2)) (hn : nc a18 = true) (k : G q d x mc ms oc al cs ss (pc + 2) (a0 :: a1 :: a2 :: a3 :: a4 :: a5 :: a6 :: a7 :: a8 :: a9 :: a10 :: a11 :: a12 :: a13 :: a14 :: a15 :: a16 :: a17 :: a18 :: some (.long v) :: none :: tl) st M) : G q d x mc ms oc al cs ss pc (a0 :: a1 :: a2 :: a3 :: a4 :: a5 :: a6 :: a7 :: a8 :: a9 :: a10 :: a11 :: a12 :: a13 :: a14 :: a15 :: a16 :: a17 :: a18 :: a19 :: a20 :: tl) (.long v :: st) M := by
  intro p l e R s m args below meth c H locs Q D nx nz ad ca A ls C hd hP hS hal hl
  obtain ⟨hx, hb, hml, hr, hown, hts, hK, hE, hA, hJ, hAd, hlk, hst, hRm, hmd⟩ := id C
  have hn9 : 19 + 1 < mL q := by have := hl.2.2.1; simp only [List.length_cons] at this; omega
  refine lv_lstore hx hb h0 hl.has hn9 rfl (fun ls' hl' => ?_)
  exact k p l e R s m args below meth c H locs Q D nx nz ad ca A ls' C hd hP hS hal (lvOK.st2 (x := .long v) hl hn9 (fun j hj => by have h9 : j = 18 := (by omega); subst h9; exact hn) hl')
theorem r_lstore20 {a0 a1 a2 a3 a4 a5 a6 a7 a8 a9 a10 a11 a12 a13 a14 a15 a16 a17 a18 a19 a20 a21 : Option Value} {tl : List (Option Value)} {v : Int64} (h0 : dec q pc = .ok (.lstore 20, 2)) (hn : nc a19 = true) (k : G q d x mc ms oc al cs ss (pc + 2) (a0 :: a1 :: a2 :: a3 :: a4 :: a5 :: a6 :: a7 :: a8 :: a9 :: a10 :: a11 :: a12 :: a13 :: a14 :: a15 :: a16 :: a17 :: a18 :: a19 :: some (.long v) :: none :: tl) st M) : G q d x mc ms oc al cs ss pc (a0 :: a1 :: a2 :: a3 :: a4 :: a5 :: a6 :: a7 :: a8 :: a9 :: a10 :: a11 :: a12 :: a13 :: a14 :: a15 :: a16 :: a17 :: a18 :: a19 :: a20 :: a21 :: tl) (.long v :: st) M := by
  intro p l e R s m args below meth c H locs Q D nx nz ad ca A ls C hd hP hS hal hl
  obtain ⟨hx, hb, hml, hr, hown, hts, hK, hE, hA, hJ, hAd, hlk, hst, hRm, hmd⟩ := id C
  have hn9 : 20 + 1 < mL q := by have := hl.2.2.1; simp only [List.length_cons] at this; omega
  refine lv_lstore hx hb h0 hl.has hn9 rfl (fun ls' hl' => ?_)
  exact k p l e R s m args below meth c H locs Q D nx nz ad ca A ls' C hd hP hS hal (lvOK.st2 (x := .long v) hl hn9 (fun j hj => by have h9 : j = 19 := (by omega); subst h9; exact hn) hl')
theorem r_lstore21 {a0 a1 a2 a3 a4 a5 a6 a7 a8 a9 a10 a11 a12 a13 a14 a15 a16 a17 a18 a19 a20 a21 a22 : Option Value} {tl : List (Option Value)} {v : Int64} (h0 : dec q pc = .ok (.lstore 21, 2)) (hn : nc a20 = true) (k : G q d x mc ms oc al cs ss (pc + 2) (a0 :: a1 :: a2 :: a3 :: a4 :: a5 :: a6 :: a7 :: a8 :: a9 :: a10 :: a11 :: a12 :: a13 :: a14 :: a15 :: a16 :: a17 :: a18 :: a19 :: a20 :: some (.long v) :: none :: tl) st M) : G q d x mc ms oc al cs ss pc (a0 :: a1 :: a2 :: a3 :: a4 :: a5 :: a6 :: a7 :: a8 :: a9 :: a10 :: a11 :: a12 :: a13 :: a14 :: a15 :: a16 :: a17 :: a18 :: a19 :: a20 :: a21 :: a22 :: tl) (.long v :: st) M := by
  intro p l e R s m args below meth c H locs Q D nx nz ad ca A ls C hd hP hS hal hl
  obtain ⟨hx, hb, hml, hr, hown, hts, hK, hE, hA, hJ, hAd, hlk, hst, hRm, hmd⟩ := id C
  have hn9 : 21 + 1 < mL q := by have := hl.2.2.1; simp only [List.length_cons] at this; omega
  refine lv_lstore hx hb h0 hl.has hn9 rfl (fun ls' hl' => ?_)
  exact k p l e R s m args below meth c H locs Q D nx nz ad ca A ls' C hd hP hS hal (lvOK.st2 (x := .long v) hl hn9 (fun j hj => by have h9 : j = 20 := (by omega); subst h9; exact hn) hl')
theorem r_lstore22 {a0 a1 a2 a3 a4 a5 a6 a7 a8 a9 a10 a11 a12 a13 a14 a15 a16 a17 a18 a19 a20 a21 a22 a23 : Option Value} {tl : List (Option Value)} {v : Int64} (h0 : dec q pc = .ok (.lstore 22, 2)) (hn : nc a21 = true) (k : G q d x mc ms oc al cs ss (pc + 2) (a0 :: a1 :: a2 :: a3 :: a4 :: a5 :: a6 :: a7 :: a8 :: a9 :: a10 :: a11 :: a12 :: a13 :: a14 :: a15 :: a16 :: a17 :: a18 :: a19 :: a20 :: a21 :: some (.long v) :: none :: tl) st M) : G q d x mc ms oc al cs ss pc (a0 :: a1 :: a2 :: a3 :: a4 :: a5 :: a6 :: a7 :: a8 :: a9 :: a10 :: a11 :: a12 :: a13 :: a14 :: a15 :: a16 :: a17 :: a18 :: a19 :: a20 :: a21 :: a22 :: a23 :: tl) (.long v :: st) M := by
  intro p l e R s m args below meth c H locs Q D nx nz ad ca A ls C hd hP hS hal hl
  obtain ⟨hx, hb, hml, hr, hown, hts, hK, hE, hA, hJ, hAd, hlk, hst, hRm, hmd⟩ := id C
  have hn9 : 22 + 1 < mL q := by have := hl.2.2.1; simp only [List.length_cons] at this; omega
  refine lv_lstore hx hb h0 hl.has hn9 rfl (fun ls' hl' => ?_)
  exact k p l e R s m args below meth c H locs Q D nx nz ad ca A ls' C hd hP hS hal (lvOK.st2 (x := .long v) hl hn9 (fun j hj => by have h9 : j = 21 := (by omega); subst h9; exact hn) hl')
theorem r_lstore23 {a0 a1 a2 a3 a4 a5 a6 a7 a8 a9 a10 a11 a12 a13 a14 a15 a16 a17 a18 a19 a20 a21 a22 a23 a24 : Option Value} {tl : List (Option Value)} {v : Int64} (h0 : dec q pc = .ok (.lstore 23, 2)) (hn : nc a22 = true) (k : G q d x mc ms oc al cs ss (pc + 2) (a0 :: a1 :: a2 :: a3 :: a4 :: a5 :: a6 :: a7 :: a8 :: a9 :: a10 :: a11 :: a12 :: a13 :: a14 :: a15 :: a16 :: a17 :: a18 :: a19 :: a20 :: a21 :: a22 :: some (.long v) :: none :: tl) st M) : G q d x mc ms oc al cs ss pc (a0 :: a1 :: a2 :: a3 :: a4 :: a5 :: a6 :: a7 :: a8 :: a9 :: a10 :: a11 :: a12 :: a13 :: a14 :: a15 :: a16 :: a17 :: a18 :: a19 :: a20 :: a21 :: a22 :: a23 :: a24 :: tl) (.long v :: st) M := by
  intro p l e R s m args below meth c H locs Q D nx nz ad ca A ls C hd hP hS hal hl
  obtain ⟨hx, hb, hml, hr, hown, hts, hK, hE, hA, hJ, hAd, hlk, hst, hRm, hmd⟩ := id C
  have hn9 : 23 + 1 < mL q := by have := hl.2.2.1; simp only [List.length_cons] at this; omega
  refine lv_lstore hx hb h0 hl.has hn9 rfl (fun ls' hl' => ?_)
  exact k p l e R s m args below meth c H locs Q D nx nz ad ca A ls' C hd hP hS hal (lvOK.st2 (x := .long v) hl hn9 (fun j hj => by have h9 : j = 22 := (by omega); subst h9; exact hn) hl')
theorem r_iinc0 {tl : List (Option Value)} {v : Int32} {z : Int} (h0 : dec q pc = .ok (.iinc 0 z, 3)) (k : G q d x mc ms oc al cs ss (pc + 3) (some (.int (v + Int32.ofInt z)) :: tl) st M) : G q d x mc ms oc al cs ss pc (some (.int v) :: tl) st M := by
  intro p l e R s m args below meth c H locs Q D nx nz ad ca A ls C hd hP hS hal hl
  obtain ⟨hx, hb, hml, hr, hown, hts, hK, hE, hA, hJ, hAd, hlk, hst, hRm, hmd⟩ := id C
  have hn9 : 0 < mL q := by have := hl.2.2.1; simp only [List.length_cons] at this; omega
  obtain ⟨k9, hk9⟩ := List.getElem?_of_mem (lvA_mem (ad := ad) (show (some (.int v) :: tl)[0]? = some (some (.int v)) from rfl))
  refine lv_iinc (k := k9) hx hb h0 hl.has hk9 rfl hn9 rfl (fun ls' hl' => ?_)
  exact k p l e R s m args below meth c H locs Q D nx nz ad ca A ls' C hd hP hS hal (lvOK.st1 (x := .int (v + Int32.ofInt z)) hl hn9 (fun j hj => absurd hj (by omega)) hl')
theorem r_iinc1 {a0 : Option Value} {tl : List (Option Value)} {v : Int32} {z : Int} (h0 : dec q pc = .ok (.iinc 1 z, 3)) (hn : nc a0 = true) (k : G q d x mc ms oc al cs ss (pc + 3) (a0 :: some (.int (v + Int32.ofInt z)) :: tl) st M) : G q d x mc ms oc al cs ss pc (a0 :: some (.int v) :: tl) st M := by
  intro p l e R s m args below meth c H locs Q D nx nz ad ca A ls C hd hP hS hal hl
  obtain ⟨hx, hb, hml, hr, hown, hts, hK, hE, hA, hJ, hAd, hlk, hst, hRm, hmd⟩ := id C
  have hn9 : 1 < mL q := by have := hl.2.2.1; simp only [List.length_cons] at this; omega
  obtain ⟨k9, hk9⟩ := List.getElem?_of_mem (lvA_mem (ad := ad) (show (a0 :: some (.int v) :: tl)[1]? = some (some (.int v)) from rfl))
  refine lv_iinc (k := k9) hx hb h0 hl.has hk9 rfl hn9 rfl (fun ls' hl' => ?_)
  exact k p l e R s m args below meth c H locs Q D nx nz ad ca A ls' C hd hP hS hal (lvOK.st1 (x := .int (v + Int32.ofInt z)) hl hn9 (fun j hj => by have h9 : j = 0 := (by omega); subst h9; exact hn) hl')
theorem r_iinc2 {a0 a1 : Option Value} {tl : List (Option Value)} {v : Int32} {z : Int} (h0 : dec q pc = .ok (.iinc 2 z, 3)) (hn : nc a1 = true) (k : G q d x mc ms oc al cs ss (pc + 3) (a0 :: a1 :: some (.int (v + Int32.ofInt z)) :: tl) st M) : G q d x mc ms oc al cs ss pc (a0 :: a1 :: some (.int v) :: tl) st M := by
  intro p l e R s m args below meth c H locs Q D nx nz ad ca A ls C hd hP hS hal hl
  obtain ⟨hx, hb, hml, hr, hown, hts, hK, hE, hA, hJ, hAd, hlk, hst, hRm, hmd⟩ := id C
  have hn9 : 2 < mL q := by have := hl.2.2.1; simp only [List.length_cons] at this; omega
  obtain ⟨k9, hk9⟩ := List.getElem?_of_mem (lvA_mem (ad := ad) (show (a0 :: a1 :: some (.int v) :: tl)[2]? = some (some (.int v)) from rfl))
  refine lv_iinc (k := k9) hx hb h0 hl.has hk9 rfl hn9 rfl (fun ls' hl' => ?_)
  exact k p l e R s m args below meth c H locs Q D nx nz ad ca A ls' C hd hP hS hal (lvOK.st1 (x := .int (v + Int32.ofInt z)) hl hn9 (fun j hj => by have h9 : j = 1 := (by omega); subst h9; exact hn) hl')
theorem r_iinc3 {a0 a1 a2 : Option Value} {tl : List (Option Value)} {v : Int32} {z : Int} (h0 : dec q pc = .ok (.iinc 3 z, 3)) (hn : nc a2 = true) (k : G q d x mc ms oc al cs ss (pc + 3) (a0 :: a1 :: a2 :: some (.int (v + Int32.ofInt z)) :: tl) st M) : G q d x mc ms oc al cs ss pc (a0 :: a1 :: a2 :: some (.int v) :: tl) st M := by
  intro p l e R s m args below meth c H locs Q D nx nz ad ca A ls C hd hP hS hal hl
  obtain ⟨hx, hb, hml, hr, hown, hts, hK, hE, hA, hJ, hAd, hlk, hst, hRm, hmd⟩ := id C
  have hn9 : 3 < mL q := by have := hl.2.2.1; simp only [List.length_cons] at this; omega
  obtain ⟨k9, hk9⟩ := List.getElem?_of_mem (lvA_mem (ad := ad) (show (a0 :: a1 :: a2 :: some (.int v) :: tl)[3]? = some (some (.int v)) from rfl))
  refine lv_iinc (k := k9) hx hb h0 hl.has hk9 rfl hn9 rfl (fun ls' hl' => ?_)
  exact k p l e R s m args below meth c H locs Q D nx nz ad ca A ls' C hd hP hS hal (lvOK.st1 (x := .int (v + Int32.ofInt z)) hl hn9 (fun j hj => by have h9 : j = 2 := (by omega); subst h9; exact hn) hl')
theorem r_iinc4 {a0 a1 a2 a3 : Option Value} {tl : List (Option Value)} {v : Int32} {z : Int} (h0 : dec q pc = .ok (.iinc 4 z, 3)) (hn : nc a3 = true) (k : G q d x mc ms oc al cs ss (pc + 3) (a0 :: a1 :: a2 :: a3 :: some (.int (v + Int32.ofInt z)) :: tl) st M) : G q d x mc ms oc al cs ss pc (a0 :: a1 :: a2 :: a3 :: some (.int v) :: tl) st M := by
  intro p l e R s m args below meth c H locs Q D nx nz ad ca A ls C hd hP hS hal hl
  obtain ⟨hx, hb, hml, hr, hown, hts, hK, hE, hA, hJ, hAd, hlk, hst, hRm, hmd⟩ := id C
  have hn9 : 4 < mL q := by have := hl.2.2.1; simp only [List.length_cons] at this; omega
  obtain ⟨k9, hk9⟩ := List.getElem?_of_mem (lvA_mem (ad := ad) (show (a0 :: a1 :: a2 :: a3 :: some (.int v) :: tl)[4]? = some (some (.int v)) from rfl))
  refine lv_iinc (k := k9) hx hb h0 hl.has hk9 rfl hn9 rfl (fun ls' hl' => ?_)
  exact k p l e R s m args below meth c H locs Q D nx nz ad ca A ls' C hd hP hS hal (lvOK.st1 (x := .int (v + Int32.ofInt z)) hl hn9 (fun j hj => by have h9 : j = 3 := (by omega); subst h9; exact hn) hl')
theorem r_iinc5 {a0 a1 a2 a3 a4 : Option Value} {tl : List (Option Value)} {v : Int32} {z : Int} (h0 : dec q pc = .ok (.iinc 5 z, 3)) (hn : nc a4 = true) (k : G q d x mc ms oc al cs ss (pc + 3) (a0 :: a1 :: a2 :: a3 :: a4 :: some (.int (v + Int32.ofInt z)) :: tl) st M) : G q d x mc ms oc al cs ss pc (a0 :: a1 :: a2 :: a3 :: a4 :: some (.int v) :: tl) st M := by
  intro p l e R s m args below meth c H locs Q D nx nz ad ca A ls C hd hP hS hal hl
  obtain ⟨hx, hb, hml, hr, hown, hts, hK, hE, hA, hJ, hAd, hlk, hst, hRm, hmd⟩ := id C
  have hn9 : 5 < mL q := by have := hl.2.2.1; simp only [List.length_cons] at this; omega
  obtain ⟨k9, hk9⟩ := List.getElem?_of_mem (lvA_mem (ad := ad) (show (a0 :: a1 :: a2 :: a3 :: a4 :: some (.int v) :: tl)[5]? = some (some (.int v)) from rfl))
  refine lv_iinc (k := k9) hx hb h0 hl.has hk9 rfl hn9 rfl (fun ls' hl' => ?_)
  exact k p l e R s m args below meth c H locs Q D nx nz ad ca A ls' C hd hP hS hal (lvOK.st1 (x := .int (v + Int32.ofInt z)) hl hn9 (fun j hj => by have h9 : j = 4 := (by omega); subst h9; exact hn) hl')
theorem r_iinc6 {a0 a1 a2 a3 a4 a5 : Option Value} {tl : List (Option Value)} {v : Int32} {z : Int} (h0 : dec q pc = .ok (.iinc 6 z, 3)) (hn : nc a5 = true) (k : G q d x mc ms oc al cs ss (pc + 3) (a0 :: a1 :: a2 :: a3 :: a4 :: a5 :: some (.int (v + Int32.ofInt z)) :: tl) st M) : G q d x mc ms oc al cs ss pc (a0 :: a1 :: a2 :: a3 :: a4 :: a5 :: some (.int v) :: tl) st M := by
  intro p l e R s m args below meth c H locs Q D nx nz ad ca A ls C hd hP hS hal hl
  obtain ⟨hx, hb, hml, hr, hown, hts, hK, hE, hA, hJ, hAd, hlk, hst, hRm, hmd⟩ := id C
  have hn9 : 6 < mL q := by have := hl.2.2.1; simp only [List.length_cons] at this; omega
  obtain ⟨k9, hk9⟩ := List.getElem?_of_mem (lvA_mem (ad := ad) (show (a0 :: a1 :: a2 :: a3 :: a4 :: a5 :: some (.int v) :: tl)[6]? = some (some (.int v)) from rfl))
  refine lv_iinc (k := k9) hx hb h0 hl.has hk9 rfl hn9 rfl (fun ls' hl' => ?_)
  exact k p l e R s m args below meth c H locs Q D nx nz ad ca A ls' C hd hP hS hal (lvOK.st1 (x := .int (v + Int32.ofInt z)) hl hn9 (fun j hj => by have h9 : j = 5 := (by omega); subst h9; exact hn) hl')
theorem r_iinc7 {a0 a1 a2 a3 a4 a5 a6 : Option Value} {tl : List (Option Value)} {v : Int32} {z : Int} (h0 : dec q pc = .ok (.iinc 7 z, 3)) (hn : nc a6 = true) (k : G q d x mc ms oc al cs ss (pc + 3) (a0 :: a1 :: a2 :: a3 :: a4 :: a5 :: a6 :: some (.int (v + Int32.ofInt z)) :: tl) st M) : G q d x mc ms oc al cs ss pc (a0 :: a1 :: a2 :: a3 :: a4 :: a5 :: a6 :: some (.int v) :: tl) st M := by
  intro p l e R s m args below meth c H locs Q D nx nz ad ca A ls C hd hP hS hal hl
  obtain ⟨hx, hb, hml, hr, hown, hts, hK, hE, hA, hJ, hAd, hlk, hst, hRm, hmd⟩ := id C
  have hn9 : 7 < mL q := by have := hl.2.2.1; simp only [List.length_cons] at this; omega
  obtain ⟨k9, hk9⟩ := List.getElem?_of_mem (lvA_mem (ad := ad) (show (a0 :: a1 :: a2 :: a3 :: a4 :: a5 :: a6 :: some (.int v) :: tl)[7]? = some (some (.int v)) from rfl))
  refine lv_iinc (k := k9) hx hb h0 hl.has hk9 rfl hn9 rfl (fun ls' hl' => ?_)
  exact k p l e R s m args below meth c H locs Q D nx nz ad ca A ls' C hd hP hS hal (lvOK.st1 (x := .int (v + Int32.ofInt z)) hl hn9 (fun j hj => by have h9 : j = 6 := (by omega); subst h9; exact hn) hl')
theorem r_iinc8 {a0 a1 a2 a3 a4 a5 a6 a7 : Option Value} {tl : List (Option Value)} {v : Int32} {z : Int} (h0 : dec q pc = .ok (.iinc 8 z, 3)) (hn : nc a7 = true) (k : G q d x mc ms oc al cs ss (pc + 3) (a0 :: a1 :: a2 :: a3 :: a4 :: a5 :: a6 :: a7 :: some (.int (v + Int32.ofInt z)) :: tl) st M) : G q d x mc ms oc al cs ss pc (a0 :: a1 :: a2 :: a3 :: a4 :: a5 :: a6 :: a7 :: some (.int v) :: tl) st M := by
  intro p l e R s m args below meth c H locs Q D nx nz ad ca A ls C hd hP hS hal hl
  obtain ⟨hx, hb, hml, hr, hown, hts, hK, hE, hA, hJ, hAd, hlk, hst, hRm, hmd⟩ := id C
  have hn9 : 8 < mL q := by have := hl.2.2.1; simp only [List.length_cons] at this; omega
  obtain ⟨k9, hk9⟩ := List.getElem?_of_mem (lvA_mem (ad := ad) (show (a0 :: a1 :: a2 :: a3 :: a4 :: a5 :: a6 :: a7 :: some (.int v) :: tl)[8]? = some (some (.int v)) from rfl))
  refine lv_iinc (k := k9) hx hb h0 hl.has hk9 rfl hn9 rfl (fun ls' hl' => ?_)
  exact k p l e R s m args below meth c H locs Q D nx nz ad ca A ls' C hd hP hS hal (lvOK.st1 (x := .int (v + Int32.ofInt z)) hl hn9 (fun j hj => by have h9 : j = 7 := (by omega); subst h9; exact hn) hl')
theorem r_iinc9 {a0 a1 a2 a3 a4 a5 a6 a7 a8 : Option Value} {tl : List (Option Value)} {v : Int32} {z : Int} (h0 : dec q pc = .ok (.iinc 9 z, 3)) (hn : nc a8 = true) (k : G q d x mc ms oc al cs ss (pc + 3) (a0 :: a1 :: a2 :: a3 :: a4 :: a5 :: a6 :: a7 :: a8 :: some (.int (v + Int32.ofInt z)) :: tl) st M) : G q d x mc ms oc al cs ss pc (a0 :: a1 :: a2 :: a3 :: a4 :: a5 :: a6 :: a7 :: a8 :: some (.int v) :: tl) st M := by
  intro p l e R s m args below meth c H locs Q D nx nz ad ca A ls C hd hP hS hal hl
  obtain ⟨hx, hb, hml, hr, hown, hts, hK, hE, hA, hJ, hAd, hlk, hst, hRm, hmd⟩ := id C
  have hn9 : 9 < mL q := by have := hl.2.2.1; simp only [List.length_cons] at this; omega
  obtain ⟨k9, hk9⟩ := List.getElem?_of_mem (lvA_mem (ad := ad) (show (a0 :: a1 :: a2 :: a3 :: a4 :: a5 :: a6 :: a7 :: a8 :: some (.int v) :: tl)[9]? = some (some (.int v)) from rfl))
  refine lv_iinc (k := k9) hx hb h0 hl.has hk9 rfl hn9 rfl (fun ls' hl' => ?_)
  exact k p l e R s m args below meth c H locs Q D nx nz ad ca A ls' C hd hP hS hal (lvOK.st1 (x := .int (v + Int32.ofInt z)) hl hn9 (fun j hj => by have h9 : j = 8 := (by omega); subst h9; exact hn) hl')
theorem r_iinc10 {a0 a1 a2 a3 a4 a5 a6 a7 a8 a9 : Option Value} {tl : List (Option Value)} {v : Int32} {z : Int} (h0 : dec q pc = .ok (.iinc 10 z, 3)) (hn : nc a9 = true) (k : G q d x mc ms oc al cs ss (pc + 3) (a0 :: a1 :: a2 :: a3 :: a4 :: a5 :: a6 :: a7 :: a8 :: a9 :: some (.int (v + Int32.ofInt z)) :: tl) st M) : G q d x mc ms oc al cs ss pc (a0 :: a1 :: a2 :: a3 :: a4 :: a5 :: a6 :: a7 :: a8 :: a9 :: some (.int v) :: tl) st M := by
  intro p l e R s m args below meth c H locs Q D nx nz ad ca A ls C hd hP hS hal hl
  obtain ⟨hx, hb, hml, hr, hown, hts, hK, hE, hA, hJ, hAd, hlk, hst, hRm, hmd⟩ := id C
  have hn9 : 10 < mL q := by have := hl.2.2.1; simp only [List.length_cons] at this; omega
  obtain ⟨k9, hk9⟩ := List.getElem?_of_mem (lvA_mem (ad := ad) (show (a0 :: a1 :: a2 :: a3 :: a4 :: a5 :: a6 :: a7 :: a8 :: a9 :: some (.int v) :: tl)[10]? = some (some (.int v)) from rfl))
  refine lv_iinc (k := k9) hx hb h0 hl.has hk9 rfl hn9 rfl (fun ls' hl' => ?_)
  exact k p l e R s m args below meth c H locs Q D nx nz ad ca A ls' C hd hP hS hal (lvOK.st1 (x := .int (v + Int32.ofInt z)) hl hn9 (fun j hj => by have h9 : j = 9 := (by omega); subst h9; exact hn) hl')
theorem r_iinc11 {a0 a1 a2 a3 a4 a5 a6 a7 a8 a9 a10 : Option Value} {tl : List (Option Value)} {v : Int32} {z : Int} (h0 : dec q pc = .ok (.iinc 11 z, 3)) (hn : nc a10 = true) (k : G q d x mc ms oc al cs ss (pc + 3) (a0 :: a1 :: a2 :: a3 :: a4 :: a5 :: a6 :: a7 :: a8 :: a9 :: a10 :: some (.int (v + Int32.ofInt z)) :: tl) st M) : G q d x mc ms oc al cs ss pc (a0 :: a1 :: a2 :: a3 :: a4 :: a5 :: a6 :: a7 :: a8 :: a9 :: a10 :: some (.int v) :: tl) st M := by
  intro p l e R s m args below meth c H locs Q D nx nz ad ca A ls C hd hP hS hal hl
  obtain ⟨hx, hb, hml, hr, hown, hts, hK, hE, hA, hJ, hAd, hlk, hst, hRm, hmd⟩ := id C
  have hn9 : 11 < mL q := by have := hl.2.2.1; simp only [List.length_cons] at this; omega
  obtain ⟨k9, hk9⟩ := List.getElem?_of_mem (lvA_mem (ad := ad) (show (a0 :: a1 :: a2 :: a3 :: a4 :: a5 :: a6 :: a7 :: a8 :: a9 :: a10 :: some (.int v) :: tl)[11]? = some (some (.int v)) from rfl))
  refine lv_iinc (k := k9) hx hb h0 hl.has hk9 rfl hn9 rfl (fun ls' hl' => ?_)
  exact k p l e R s m args below meth c H locs Q D nx nz ad ca A ls' C hd hP hS hal (lvOK.st1 (x := .int (v + Int32.ofInt z)) hl hn9 (fun j hj => by have h9 : j = 10 := (by omega); subst h9; exact hn) hl')
theorem r_iinc12 {a0 a1 a2 a3 a4 a5 a6 a7 a8 a9 a10 a11 : Option Value} {tl : List (Option Value)} {v : Int32} {z : Int} (h0 : dec q pc = .ok (.iinc 12 z, 3)) (hn : nc a11 = true) (k : G q d x mc ms oc al cs ss (pc + 3) (a0 :: a1 :: a2 :: a3 :: a4 :: a5 :: a6 :: a7 :: a8 :: a9 :: a10 :: a11 :: some (.int (v + Int32.ofInt z)) :: tl) st M) : G q d x mc ms oc al cs ss pc (a0 :: a1 :: a2 :: a3 :: a4 :: a5 :: a6 :: a7 :: a8 :: a9 :: a10 :: a11 :: some (.int v) :: tl) st M := by
  intro p l e R s m args below meth c H locs Q D nx nz ad ca A ls C hd hP hS hal hl
  obtain ⟨hx, hb, hml, hr, hown, hts, hK, hE, hA, hJ, hAd, hlk, hst, hRm, hmd⟩ := id C
  have hn9 : 12 < mL q := by have := hl.2.2.1; simp only [List.length_cons] at this; omega
  obtain ⟨k9, hk9⟩ := List.getElem?_of_mem (lvA_mem (ad := ad) (show (a0 :: a1 :: a2 :: a3 :: a4 :: a5 :: a6 :: a7 :: a8 :: a9 :: a10 :: a11 :: some (.int v) :: tl)[12]? = some (some (.int v)) from rfl))
  refine lv_iinc (k := k9) hx hb h0 hl.has hk9 rfl hn9 rfl (fun ls' hl' => ?_)
  exact k p l e R s m args below meth c H locs Q D nx nz ad ca A ls' C hd hP hS hal (lvOK.st1 (x := .int (v + Int32.ofInt z)) hl hn9 (fun j hj => by have h9 : j = 11 := (by omega); subst h9; exact hn) hl')
theorem r_iinc13 {a0 a1 a2 a3 a4 a5 a6 a7 a8 a9 a10 a11 a12 : Option Value} {tl : List (Option Value)} {v : Int32} {z : Int} (h0 : dec q pc = .ok (.iinc 13 z, 3)) (hn : nc a12 = true) (k : G q d x mc ms oc al cs ss (pc + 3) (a0 :: a1 :: a2 :: a3 :: a4 :: a5 :: a6 :: a7 :: a8 :: a9 :: a10 :: a11 :: a12 :: some (.int (v + Int32.ofInt z)) :: tl) st M) : G q d x mc ms oc al cs ss pc (a0 :: a1 :: a2 :: a3 :: a4 :: a5 :: a6 :: a7 :: a8 :: a9 :: a10 :: a11 :: a12 :: some (.int v) :: tl) st M := by
  intro p l e R s m args below meth c H locs Q D nx nz ad ca A ls C hd hP hS hal hl
  obtain ⟨hx, hb, hml, hr, hown, hts, hK, hE, hA, hJ, hAd, hlk, hst, hRm, hmd⟩ := id C
  have hn9 : 13 < mL q := by have := hl.2.2.1; simp only [List.length_cons] at this; omega
  obtain ⟨k9, hk9⟩ := List.getElem?_of_mem (lvA_mem (ad := ad) (show (a0 :: a1 :: a2 :: a3 :: a4 :: a5 :: a6 :: a7 :: a8 :: a9 :: a10 :: a11 :: a12 :: some (.int v) :: tl)[13]? = some (some (.int v)) from rfl))
  refine lv_iinc (k := k9) hx hb h0 hl.has hk9 rfl hn9 rfl (fun ls' hl' => ?_)
  exact k p l e R s m args below meth c H locs Q D nx nz ad ca A ls' C hd hP hS hal (lvOK.st1 (x := .int (v + Int32.ofInt z)) hl hn9 (fun j hj => by have h9 : j = 12 := (by omega); subst h9; exact hn) hl')
theorem r_iinc14 {a0 a1 a2 a3 a4 a5 a6 a7 a8 a9 a10 a11 a12 a13 : Option Value} {tl : List (Option Value)} {v : Int32} {z : Int} (h0 : dec q pc = .ok (.iinc 14 z, 3)) (hn : nc a13 = true) (k : G q d x mc ms oc al cs ss (pc + 3) (a0 :: a1 :: a2 :: a3 :: a4 :: a5 :: a6 :: a7 :: a8 :: a9 :: a10 :: a11 :: a12 :: a13 :: some (.int (v + Int32.ofInt z)) :: tl) st M) : G q d x mc ms oc al cs ss pc (a0 :: a1 :: a2 :: a3 :: a4 :: a5 :: a6 :: a7 :: a8 :: a9 :: a10 :: a11 :: a12 :: a13 :: some (.int v) :: tl) st M := by
  intro p l e R s m args below meth c H locs Q D nx nz ad ca A ls C hd hP hS hal hl
  obtain ⟨hx, hb, hml, hr, hown, hts, hK, hE, hA, hJ, hAd, hlk, hst, hRm, hmd⟩ := id C
  have hn9 : 14 < mL q := by have := hl.2.2.1; simp only [List.length_cons] at this; omega
  obtain ⟨k9, hk9⟩ := List.getElem?_of_mem (lvA_mem (ad := ad) (show (a0 :: a1 :: a2 :: a3 :: a4 :: a5 :: a6 :: a7 :: a8 :: a9 :: a10 :: a11 :: a12 :: a13 :: some (.int v) :: tl)[14]? = some (some (.int v)) from rfl))
  refine lv_iinc (k := k9) hx hb h0 hl.has hk9 rfl hn9 rfl (fun ls' hl' => ?_)
  exact k p l e R s m args below meth c H locs Q D nx nz ad ca A ls' C hd hP hS hal (lvOK.st1 (x := .int (v + Int32.ofInt z)) hl hn9 (fun j hj => by have h9 : j = 13 := (by omega); subst h9; exact hn) hl')
theorem r_iinc15 {a0 a1 a2 a3 a4 a5 a6 a7 a8 a9 a10 a11 a12 a13 a14 : Option Value} {tl : List (Option Value)} {v : Int32} {z : Int} (h0 : dec q pc = .ok (.iinc 15 z, 3)) (hn : nc a14 = true) (k : G q d x mc ms oc al cs ss (pc + 3) (a0 :: a1 :: a2 :: a3 :: a4 :: a5 :: a6 :: a7 :: a8 :: a9 :: a10 :: a11 :: a12 :: a13 :: a14 :: some (.int (v + Int32.ofInt z)) :: tl) st M) : G q d x mc ms oc al cs ss pc (a0 :: a1 :: a2 :: a3 :: a4 :: a5 :: a6 :: a7 :: a8 :: a9 :: a10 :: a11 :: a12 :: a13 :: a14 :: some (.int v) :: tl) st M := by
  intro p l e R s m args below meth c H locs Q D nx nz ad ca A ls C hd hP hS hal hl
  obtain ⟨hx, hb, hml, hr, hown, hts, hK, hE, hA, hJ, hAd, hlk, hst, hRm, hmd⟩ := id C
  have hn9 : 15 < mL q := by have := hl.2.2.1; simp only [List.length_cons] at this; omega
  obtain ⟨k9, hk9⟩ := List.getElem?_of_mem (lvA_mem (ad := ad) (show (a0 :: a1 :: a2 :: a3 :: a4 :: a5 :: a6 :: a7 :: a8 :: a9 :: a10 :: a11 :: a12 :: a13 :: a14 :: some (.int v) :: tl)[15]? = some (some (.int v)) from rfl))
  refine lv_iinc (k := k9) hx hb h0 hl.has hk9 rfl hn9 rfl (fun ls' hl' => ?_)
  exact k p l e R s m args below meth c H locs Q D nx nz ad ca A ls' C hd hP hS hal (lvOK.st1 (x := .int (v + Int32.ofInt z)) hl hn9 (fun j hj => by have h9 : j = 14 := (by omega); subst h9; exact hn) hl')
theorem r_iinc16 {a0 a1 a2 a3 a4 a5 a6 a7 a8 a9 a10 a11 a12 a13 a14 a15 : Option Value} {tl : List (Option Value)} {v : Int32} {z : Int} (h0 : dec q pc = .ok (.iinc 16 z, 3)) (hn : nc a15 = true) (k : G q d x mc ms oc al cs ss (pc + 3) (a0 :: a1 :: a2 :: a3 :: a4 :: a5 :: a6 :: a7 :: a8 :: a9 :: a10 :: a11 :: a12 :: a13 :: a14 :: a15 :: some (.int (v + Int32.ofInt z)) :: tl) st M) : G q d x mc ms oc al cs ss pc (a0 :: a1 :: a2 :: a3 :: a4 :: a5 :: a6 :: a7 :: a8 :: a9 :: a10 :: a11 :: a12 :: a13 :: a14 :: a15 :: some (.int v) :: tl) st M := by
  intro p l e R s m args below meth c H locs Q D nx nz ad ca A ls C hd hP hS hal hl
  obtain ⟨hx, hb, hml, hr, hown, hts, hK, hE, hA, hJ, hAd, hlk, hst, hRm, hmd⟩ := id C
  have hn9 : 16 < mL q := by have := hl.2.2.1; simp only [List.length_cons] at this; omega
  obtain ⟨k9, hk9⟩ := List.getElem?_of_mem (lvA_mem (ad := ad) (show (a0 :: a1 :: a2 :: a3 :: a4 :: a5 :: a6 :: a7 :: a8 :: a9 :: a10 :: a11 :: a12 :: a13 :: a14 :: a15 :: some (.int v) :: tl)[16]? = some (some (.int v)) from rfl))
  refine lv_iinc (k := k9) hx hb h0 hl.has hk9 rfl hn9 rfl (fun ls' hl' => ?_)
  exact k p l e R s m args below meth c H locs Q D nx nz ad ca A ls' C hd hP hS hal (lvOK.st1 (x := .int (v + Int32.ofInt z)) hl hn9 (fun j hj => by have h9 : j = 15 := (by omega); subst h9; exact hn) hl')
theorem r_iinc17 {a0 a1 a2 a3 a4 a5 a6 a7 a8 a9 a10 a11 a12 a13 a14 a15 a16 : Option Value} {tl : List (Option Value)} {v : Int32} {z : Int} (h0 : dec q pc = .ok (.iinc 17 z, 3)) (hn : nc a16 = true) (k : G q d x mc ms oc al cs ss (pc + 3) (a0 :: a1 :: a2 :: a3 :: a4 :: a5 :: a6 :: a7 :: a8 :: a9 :: a10 :: a11 :: a12 :: a13 :: a14 :: a15 :: a16 :: some (.int (v + Int32.ofInt z)) :: tl) st M) : G q d x mc ms oc al cs ss pc (a0 :: a1 :: a2 :: a3 :: a4 :: a5 :: a6 :: a7 :: a8 :: a9 :: a10 :: a11 :: a12 :: a13 :: a14 :: a15 :: a16 :: some (.int v) :: tl) st M := by
  intro p l e R s m args below meth c H locs Q D nx nz ad ca A ls C hd hP hS hal hl
  obtain ⟨hx, hb, hml, hr, hown, hts, hK, hE, hA, hJ, hAd, hlk, hst, hRm, hmd⟩ := id C
  have hn9 : 17 < mL q := by have := hl.2.2.1; simp only [List.length_cons] at this; omega
  obtain ⟨k9, hk9⟩ := List.getElem?_of_mem (lvA_mem (ad := ad) (show (a0 :: a1 :: a2 :: a3 :: a4 :: a5 :: a6 :: a7 :: a8 :: a9 :: a10 :: a11 :: a12 :: a13 :: a14 :: a15 :: a16 :: some (.int v) :: tl)[17]? = some (some (.int v)) from rfl))
  refine lv_iinc (k := k9) hx hb h0 hl.has hk9 rfl hn9 rfl (fun ls' hl' => ?_)
  exact k p l e R s m args below meth c H locs Q D nx nz ad ca A ls' C hd hP hS hal (lvOK.st1 (x := .int (v + Int32.ofInt z)) hl hn9 (fun j hj => by have h9 : j = 16 := (by omega); subst h9; exact hn) hl')
theorem r_iinc18 {a0 a1 a2 a3 a4 a5 a6 a7 a8 a9 a10 a11 a12 a13 a14 a15 a16 a17 : Option Value} {tl : List (Option Value)} {v : Int32} {z : Int} (h0 : dec q pc = .ok (.iinc 18 z, 3)) (hn : nc a17 = true) (k : G q d x mc ms oc al cs ss (pc + 3) (a0 :: a1 :: a2 :: a3 :: a4 :: a5 :: a6 :: a7 :: a8 :: a9 :: a10 :: a11 :: a12 :: a13 :: a14 :: a15 :: a16 :: a17 :: some (.int (v + Int32.ofInt z)) :: tl) st M) : G q d x mc ms oc al cs ss pc (a0 :: a1 :: a2 :: a3 :: a4 :: a5 :: a6 :: a7 :: a8 :: a9 :: a10 :: a11 :: a12 :: a13 :: a14 :: a15 :: a16 :: a17 :: some (.int v) :: tl) st M := by
  intro p l e R s m args below meth c H locs Q D nx nz ad ca A ls C hd hP hS hal hl
  obtain ⟨hx, hb, hml, hr, hown, hts, hK, hE, hA, hJ, hAd, hlk, hst, hRm, hmd⟩ := id C
  have hn9 : 18 < mL q := by have := hl.2.2.1; simp only [List.length_cons] at this; omega
  obtain ⟨k9, hk9⟩ := List.getElem?_of_mem (lvA_mem (ad := ad) (show (a0 :: a1 :: a2 :: a3 :: a4 :: a5 :: a6 :: a7 :: a8 :: a9 :: a10 :: a11 :: a12 :: a13 :: a14 :: a15 :: a16 :: a17 :: some (.int v) :: tl)[18]? = some (some (.int v)) from rfl))
  refine lv_iinc (k := k9) hx hb h0 hl.has hk9 rfl hn9 rfl (fun ls' hl' => ?_)
  exact k p l e R s m args below meth c H locs Q D nx nz ad ca A ls' C hd hP hS hal (lvOK.st1 (x := .int (v + Int32.ofInt z)) hl hn9 (fun j hj => by have h9 : j = 17 := (by omega); subst h9; exact hn) hl')
theorem r_iinc19 {a0 a1 a2 a3 a4 a5 a6 a7 a8 a9 a10 a11 a12 a13 a14 a15 a16 a17 a18 : Option Value} {tl : List (Option Value)} {v : Int32} {z : Int} (h0 : dec q pc = .ok (.iinc 19 z, 3)) (hn : nc a18 = true) (k : G q d x mc ms oc al cs ss (pc + 3) (a0 :: a1 :: a2 :: a3 :: a4 :: a5 :: a6 :: a7 :: a8 :: a9 :: a10 :: a11 :: a12 :: a13 :: a14 :: a15 :: a16 :: a17 :: a18 :: some (.int (v + Int32.ofInt z)) :: tl) st M) : G q d x mc ms oc al cs ss pc (a0 :: a1 :: a2 :: a3 :: a4 :: a5 :: a6 :: a7 :: a8 :: a9 :: a10 :: a11 :: a12 :: a13 :: a14 :: a15 :: a16 :: a17 :: a18 :: some (.int v) :: tl) st M := by
  intro p l e R s m args below meth c H locs Q D nx nz ad ca A ls C hd hP hS hal hl
  obtain ⟨hx, hb, hml, hr, hown, hts, hK, hE, hA, hJ, hAd, hlk, hst, hRm, hmd⟩ := id C
  have hn9 : 19 < mL q := by have := hl.2.2.1; simp only [List.length_cons] at this; omega
  obtain ⟨k9, hk9⟩ := List.getElem?_of_mem (lvA_mem (ad := ad) (show (a0 :: a1 :: a2 :: a3 :: a4 :: a5 :: a6 :: a7 :: a8 :: a9 :: a10 :: a11 :: a12 :: a13 :: a14 :: a15 :: a16 :: a17 :: a18 :: some (.int v) :: tl)[19]? = some (some (.int v)) from rfl))
  refine lv_iinc (k := k9) hx hb h0 hl.has hk9 rfl hn9 rfl (fun ls' hl' => ?_)
  exact k p l e R s m args below meth c H locs Q D nx nz ad ca A ls' C hd hP hS hal (lvOK.st1 (x := .int (v + Int32.ofInt z)) hl hn9 (fun j hj => by have h9 : j = 18 := (by omega); subst h9; exact hn) hl')
theorem r_iinc20 {a0 a1 a2 a3 a4 a5 a6 a7 a8 a9 a10 a11 a12 a13 a14 a15 a16 a17 a18 a19 : Option Value} {tl : List (Option Value)} {v : Int32} {z : Int} (h0 : dec q pc = .ok (.iinc 20 z, 3)) (hn : nc a19 = true) (k : G q d x mc ms oc al cs ss (pc + 3) (a0 :: a1 :: a2 :: a3 :: a4 :: a5 :: a6 :: a7 :: a8 :: a9 :: a10 :: a11 :: a12 :: a13 :: a14 :: a15 :: a16 :: a17 :: a18 :: a19 :: some (.int (v + Int32.ofInt z)) :: tl) st M) : G q d x mc ms oc al cs ss pc (a0 :: a1 :: a2 :: a3 :: a4 :: a5 :: a6 :: a7 :: a8 :: a9 :: a10 :: a11 :: a12 :: a13 :: a14 :: a15 :: a16 :: a17 :: a18 :: a19 :: some (.int v) :: tl) st M := by
  intro p l e R s m args below meth c H locs Q D nx nz ad ca A ls C hd hP hS hal hl
  obtain ⟨hx, hb, hml, hr, hown, hts, hK, hE, hA, hJ, hAd, hlk, hst, hRm, hmd⟩ := id C
  have hn9 : 20 < mL q := by have := hl.2.2.1; simp only [List.length_cons] at this; omega
  obtain ⟨k9, hk9⟩ := List.getElem?_of_mem (lvA_mem (ad := ad) (show (a0 :: a1 :: a2 :: a3 :: a4 :: a5 :: a6 :: a7 :: a8 :: a9 :: a10 :: a11 :: a12 :: a13 :: a14 :: a15 :: a16 :: a17 :: a18 :: a19 :: some (.int v) :: tl)[20]? = some (some (.int v)) from rfl))
  refine lv_iinc (k := k9) hx hb h0 hl.has hk9 rfl hn9 rfl (fun ls' hl' => ?_)
  exact k p l e R s m args below meth c H locs Q D nx nz ad ca A ls' C hd hP hS hal (lvOK.st1 (x := .int (v + Int32.ofInt z)) hl hn9 (fun j hj => by have h9 : j = 19 := (by omega); subst h9; exact hn) hl')
theorem r_iinc21 {a0 a1 a2 a3 a4 a5 a6 a7 a8 a9 a10 a11 a12 a13 a14 a15 a16 a17 a18 a19 a20 : Option Value} {tl : List (Option Value)} {v : Int32} {z : Int} (h0 : dec q pc = .ok (.iinc 21 z, 3)) (hn : nc a20 = true) (k : G q d x mc ms oc al cs ss (pc + 3) (a0 :: a1 :: a2 :: a3 :: a4 :: a5 :: a6 :: a7 :: a8 :: a9 :: a10 :: a11 :: a12 :: a13 :: a14 :: a15 :: a16 :: a17 :: a18 :: a19 :: a20 :: some (.int (v + Int32.ofInt z)) :: tl) st M) : G q d x mc ms oc al cs ss pc (a0 :: a1 :: a2 :: a3 :: a4 :: a5 :: a6 :: a7 :: a8 :: a9 :: a10 :: a11 :: a12 :: a13 :: a14 :: a15 :: a16 :: a17 :: a18 :: a19 :: a20 :: some (.int v) :: tl) st M := by
  intro p l e R s m args below meth c H locs Q D nx nz ad ca A ls C hd hP hS hal hl
  obtain ⟨hx, hb, hml, hr, hown, hts, hK, hE, hA, hJ, hAd, hlk, hst, hRm, hmd⟩ := id C
  have hn9 : 21 < mL q := by have := hl.2.2.1; simp only [List.length_cons] at this; omega
  obtain ⟨k9, hk9⟩ := List.getElem?_of_mem (lvA_mem (ad := ad) (show (a0 :: a1 :: a2 :: a3 :: a4 :: a5 :: a6 :: a7 :: a8 :: a9 :: a10 :: a11 :: a12 :: a13 :: a14 :: a15 :: a16 :: a17 :: a18 :: a19 :: a20 :: some (.int v) :: tl)[21]? = some (some (.int v)) from rfl))
  refine lv_iinc (k := k9) hx hb h0 hl.has hk9 rfl hn9 rfl (fun ls' hl' => ?_)
  exact k p l e R s m args below meth c H locs Q D nx nz ad ca A ls' C hd hP hS hal (lvOK.st1 (x := .int (v + Int32.ofInt z)) hl hn9 (fun j hj => by have h9 : j = 20 := (by omega); subst h9; exact hn) hl')
theorem r_iinc22 {a0 a1 a2 a3 a4 a5 a6 a7 a8 a9 a10 a11 a12 a13 a14 a15 a16 a17 a18 a19 a20 a21 : Option Value} {tl : List (Option Value)} {v : Int32} {z : Int} (h0 : dec q pc = .ok (.iinc 22 z, 3)) (hn : nc a21 = true) (k : G q d x mc ms oc al cs ss (pc + 3) (a0 :: a1 :: a2 :: a3 :: a4 :: a5 :: a6 :: a7 :: a8 :: a9 :: a10 :: a11 :: a12 :: a13 :: a14 :: a15 :: a16 :: a17 :: a18 :: a19 :: a20 :: a21 :: some (.int (v + Int32.ofInt z)) :: tl) st M) : G q d x mc ms oc al cs ss pc (a0 :: a1 :: a2 :: a3 :: a4 :: a5 :: a6 :: a7 :: a8 :: a9 :: a10 :: a11 :: a12 :: a13 :: a14 :: a15 :: a16 :: a17 :: a18 :: a19 :: a20 :: a21 :: some (.int v) :: tl) st M := by
  intro p l e R s m args below meth c H locs Q D nx nz ad ca A ls C hd hP hS hal hl
  obtain ⟨hx, hb, hml, hr, hown, hts, hK, hE, hA, hJ, hAd, hlk, hst, hRm, hmd⟩ := id C
  have hn9 : 22 < mL q := by have := hl.2.2.1; simp only [List.length_cons] at this; omega
  obtain ⟨k9, hk9⟩ := List.getElem?_of_mem (lvA_mem (ad := ad) (show (a0 :: a1 :: a2 :: a3 :: a4 :: a5 :: a6 :: a7 :: a8 :: a9 :: a10 :: a11 :: a12 :: a13 :: a14 :: a15 :: a16 :: a17 :: a18 :: a19 :: a20 :: a21 :: some (.int v) :: tl)[22]? = some (some (.int v)) from rfl))
  refine lv_iinc (k := k9) hx hb h0 hl.has hk9 rfl hn9 rfl (fun ls' hl' => ?_)
  exact k p l e R s m args below meth c H locs Q D nx nz ad ca A ls' C hd hP hS hal (lvOK.st1 (x := .int (v + Int32.ofInt z)) hl hn9 (fun j hj => by have h9 : j = 21 := (by omega); subst h9; exact hn) hl')
theorem r_iinc23 {a0 a1 a2 a3 a4 a5 a6 a7 a8 a9 a10 a11 a12 a13 a14 a15 a16 a17 a18 a19 a20 a21 a22 : Option Value} {tl : List (Option Value)} {v : Int32} {z : Int} (h0 : dec q pc = .ok (.iinc 23 z, 3)) (hn : nc a22 = true) (k : G q d x mc ms oc al cs ss (pc + 3) (a0 :: a1 :: a2 :: a3 :: a4 :: a5 :: a6 :: a7 :: a8 :: a9 :: a10 :: a11 :: a12 :: a13 :: a14 :: a15 :: a16 :: a17 :: a18 :: a19 :: a20 :: a21 :: a22 :: some (.int (v + Int32.ofInt z)) :: tl) st M) : G q d x mc ms oc al cs ss pc (a0 :: a1 :: a2 :: a3 :: a4 :: a5 :: a6 :: a7 :: a8 :: a9 :: a10 :: a11 :: a12 :: a13 :: a14 :: a15 :: a16 :: a17 :: a18 :: a19 :: a20 :: a21 :: a22 :: some (.int v) :: tl) st M := by
  intro p l e R s m args below meth c H locs Q D nx nz ad ca A ls C hd hP hS hal hl
  obtain ⟨hx, hb, hml, hr, hown, hts, hK, hE, hA, hJ, hAd, hlk, hst, hRm, hmd⟩ := id C
  have hn9 : 23 < mL q := by have := hl.2.2.1; simp only [List.length_cons] at this; omega
  obtain ⟨k9, hk9⟩ := List.getElem?_of_mem (lvA_mem (ad := ad) (show (a0 :: a1 :: a2 :: a3 :: a4 :: a5 :: a6 :: a7 :: a8 :: a9 :: a10 :: a11 :: a12 :: a13 :: a14 :: a15 :: a16 :: a17 :: a18 :: a19 :: a20 :: a21 :: a22 :: some (.int v) :: tl)[23]? = some (some (.int v)) from rfl))
  refine lv_iinc (k := k9) hx hb h0 hl.has hk9 rfl hn9 rfl (fun ls' hl' => ?_)
  exact k p l e R s m args below meth c H locs Q D nx nz ad ca A ls' C hd hP hS hal (lvOK.st1 (x := .int (v + Int32.ofInt z)) hl hn9 (fun j hj => by have h9 : j = 22 := (by omega); subst h9; exact hn) hl')
theorem r_iconst_m1 (h0 : dec q pc = .ok (.iconst (-1), 1)) (k : G q d x mc ms oc al cs ss (pc + 1) lv (.int (-1) :: st) M) : G q d x mc ms oc al cs ss pc lv st M := by
  intro p l e R s m args below meth c H locs Q D nx nz ad ca A ls C hd hP hS hal hl
  obtain ⟨hx, hb, hml, hr, hown, hts, hK, hE, hA, hJ, hAd, hlk, hst, hRm, hmd⟩ := id C
  exact lv_iconst (v := (-1)) hx hb h0 (by decide) (k p l e R s m args below meth c H locs Q D nx nz ad ca A ls C hd hP hS hal hl)
theorem r_iconst_0 (h0 : dec q pc = .ok (.iconst 0, 1)) (k : G q d x mc ms oc al cs ss (pc + 1) lv (.int 0 :: st) M) : G q d x mc ms oc al cs ss pc lv st M := by
  intro p l e R s m args below meth c H locs Q D nx nz ad ca A ls C hd hP hS hal hl
  obtain ⟨hx, hb, hml, hr, hown, hts, hK, hE, hA, hJ, hAd, hlk, hst, hRm, hmd⟩ := id C
  exact lv_iconst (v := 0) hx hb h0 (by decide) (k p l e R s m args below meth c H locs Q D nx nz ad ca A ls C hd hP hS hal hl)
theorem r_iconst_1 (h0 : dec q pc = .ok (.iconst 1, 1)) (k : G q d x mc ms oc al cs ss (pc + 1) lv (.int 1 :: st) M) : G q d x mc ms oc al cs ss pc lv st M := by
  intro p l e R s m args below meth c H locs Q D nx nz ad ca A ls C hd hP hS hal hl
  obtain ⟨hx, hb, hml, hr, hown, hts, hK, hE, hA, hJ, hAd, hlk, hst, hRm, hmd⟩ := id C
  exact lv_iconst (v := 1) hx hb h0 (by decide) (k p l e R s m args below meth c H locs Q D nx nz ad ca A ls C hd hP hS hal hl)
theorem r_iconst_2 (h0 : dec q pc = .ok (.iconst 2, 1)) (k : G q d x mc ms oc al cs ss (pc + 1) lv (.int 2 :: st) M) : G q d x mc ms oc al cs ss pc lv st M := by
  intro p l e R s m args below meth c H locs Q D nx nz ad ca A ls C hd hP hS hal hl
  obtain ⟨hx, hb, hml, hr, hown, hts, hK, hE, hA, hJ, hAd, hlk, hst, hRm, hmd⟩ := id C
  exact lv_iconst (v := 2) hx hb h0 (by decide) (k p l e R s m args below meth c H locs Q D nx nz ad ca A ls C hd hP hS hal hl)
theorem r_iconst_3 (h0 : dec q pc = .ok (.iconst 3, 1)) (k : G q d x mc ms oc al cs ss (pc + 1) lv (.int 3 :: st) M) : G q d x mc ms oc al cs ss pc lv st M := by
  intro p l e R s m args below meth c H locs Q D nx nz ad ca A ls C hd hP hS hal hl
  obtain ⟨hx, hb, hml, hr, hown, hts, hK, hE, hA, hJ, hAd, hlk, hst, hRm, hmd⟩ := id C
  exact lv_iconst (v := 3) hx hb h0 (by decide) (k p l e R s m args below meth c H locs Q D nx nz ad ca A ls C hd hP hS hal hl)
theorem r_iconst_4 (h0 : dec q pc = .ok (.iconst 4, 1)) (k : G q d x mc ms oc al cs ss (pc + 1) lv (.int 4 :: st) M) : G q d x mc ms oc al cs ss pc lv st M := by
  intro p l e R s m args below meth c H locs Q D nx nz ad ca A ls C hd hP hS hal hl
  obtain ⟨hx, hb, hml, hr, hown, hts, hK, hE, hA, hJ, hAd, hlk, hst, hRm, hmd⟩ := id C
  exact lv_iconst (v := 4) hx hb h0 (by decide) (k p l e R s m args below meth c H locs Q D nx nz ad ca A ls C hd hP hS hal hl)
theorem r_iconst_5 (h0 : dec q pc = .ok (.iconst 5, 1)) (k : G q d x mc ms oc al cs ss (pc + 1) lv (.int 5 :: st) M) : G q d x mc ms oc al cs ss pc lv st M := by
  intro p l e R s m args below meth c H locs Q D nx nz ad ca A ls C hd hP hS hal hl
  obtain ⟨hx, hb, hml, hr, hown, hts, hK, hE, hA, hJ, hAd, hlk, hst, hRm, hmd⟩ := id C
  exact lv_iconst (v := 5) hx hb h0 (by decide) (k p l e R s m args below meth c H locs Q D nx nz ad ca A ls C hd hP hS hal hl)
theorem r_bipush {z : Int} (v : Int32) (hv : (Int8.ofInt z).toInt32 = v) (h0 : dec q pc = .ok (.bipush z, 2)) (k : G q d x mc ms oc al cs ss (pc + 2) lv (.int v :: st) M) : G q d x mc ms oc al cs ss pc lv st M := by
  intro p l e R s m args below meth c H locs Q D nx nz ad ca A ls C hd hP hS hal hl
  obtain ⟨hx, hb, hml, hr, hown, hts, hK, hE, hA, hJ, hAd, hlk, hst, hRm, hmd⟩ := id C
  exact lv_bipush hx hb h0 hv (k p l e R s m args below meth c H locs Q D nx nz ad ca A ls C hd hP hS hal hl)
theorem r_sipush {z : Int} (v : Int32) (hv : (Int16.ofInt z).toInt32 = v) (h0 : dec q pc = .ok (.sipush z, 3)) (k : G q d x mc ms oc al cs ss (pc + 3) lv (.int v :: st) M) : G q d x mc ms oc al cs ss pc lv st M := by
  intro p l e R s m args below meth c H locs Q D nx nz ad ca A ls C hd hP hS hal hl
  obtain ⟨hx, hb, hml, hr, hown, hts, hK, hE, hA, hJ, hAd, hlk, hst, hRm, hmd⟩ := id C
  exact lv_sipush hx hb h0 hv (k p l e R s m args below meth c H locs Q D nx nz ad ca A ls C hd hP hS hal hl)
theorem r_lconst_0 (h0 : dec q pc = .ok (.lconst 0, 1)) (k : G q d x mc ms oc al cs ss (pc + 1) lv (.long 0 :: st) M) : G q d x mc ms oc al cs ss pc lv st M := by
  intro p l e R s m args below meth c H locs Q D nx nz ad ca A ls C hd hP hS hal hl
  obtain ⟨hx, hb, hml, hr, hown, hts, hK, hE, hA, hJ, hAd, hlk, hst, hRm, hmd⟩ := id C
  exact lv_lconst (v := 0) hx hb h0 (by decide) (k p l e R s m args below meth c H locs Q D nx nz ad ca A ls C hd hP hS hal hl)
theorem r_lconst_1 (h0 : dec q pc = .ok (.lconst 1, 1)) (k : G q d x mc ms oc al cs ss (pc + 1) lv (.long 1 :: st) M) : G q d x mc ms oc al cs ss pc lv st M := by
  intro p l e R s m args below meth c H locs Q D nx nz ad ca A ls C hd hP hS hal hl
  obtain ⟨hx, hb, hml, hr, hown, hts, hK, hE, hA, hJ, hAd, hlk, hst, hRm, hmd⟩ := id C
  exact lv_lconst (v := 1) hx hb h0 (by decide) (k p l e R s m args below meth c H locs Q D nx nz ad ca A ls C hd hP hS hal hl)
theorem r_ldc {i : Nat} {v : Int32} (hw : Cond.constant q.1.cls i v ∈ tblG) (h0 : dec q pc = .ok (.ldc i, 2)) (k : G q d x mc ms oc al cs ss (pc + 2) lv (.int v :: st) M) : G q d x mc ms oc al cs ss pc lv st M := by
  intro p l e R s m args below meth c H locs Q D nx nz ad ca A ls C hd hP hS hal hl
  obtain ⟨hx, hb, hml, hr, hown, hts, hK, hE, hA, hJ, hAd, hlk, hst, hRm, hmd⟩ := id C
  exact lv_ldc hx hb hown (hts _ hw) h0 (k p l e R s m args below meth c H locs Q D nx nz ad ca A ls C hd hP hS hal hl)
theorem r_ldc2 {i : Nat} {v : Int64} (hw : Cond.constantLong q.1.cls i v ∈ tblG) (h0 : dec q pc = .ok (.ldc2_w i, 3)) (k : G q d x mc ms oc al cs ss (pc + 3) lv (.long v :: st) M) : G q d x mc ms oc al cs ss pc lv st M := by
  intro p l e R s m args below meth c H locs Q D nx nz ad ca A ls C hd hP hS hal hl
  obtain ⟨hx, hb, hml, hr, hown, hts, hK, hE, hA, hJ, hAd, hlk, hst, hRm, hmd⟩ := id C
  exact lv_ldc2 hx hb hown (hts _ hw) h0 (k p l e R s m args below meth c H locs Q D nx nz ad ca A ls C hd hP hS hal hl)
theorem r_ldcS (kk : Nat) {i : Nat} {tx : String} (hw : strs[kk]? = some (q.1.cls, i, tx)) (h0 : dec q pc = .ok (.ldc i, 2)) (k : G q d x mc ms oc al cs ss (pc + 2) lv (.ref (2000 + kk) :: st) M) : G q d x mc ms oc al cs ss pc lv st M := by
  intro p l e R s m args below meth c H locs Q D nx nz ad ca A ls C hd hP hS hal hl
  obtain ⟨hx, hb, hml, hr, hown, hts, hK, hE, hA, hJ, hAd, hlk, hst, hRm, hmd⟩ := id C
  exact va_ldcS hx hb hown (hE.1 kk _ hw) h0 (k p l e R s m args below meth c H locs Q D nx nz ad ca A ls C hd hP hS hal hl)
theorem r_iadd {a b : Int32} (h0 : dec q pc = .ok (.iadd, 1)) (k : G q d x mc ms oc al cs ss (pc + 1) lv (.int (a + b) :: st) M) : G q d x mc ms oc al cs ss pc lv (.int b :: .int a :: st) M := by
  intro p l e R s m args below meth c H locs Q D nx nz ad ca A ls C hd hP hS hal hl
  obtain ⟨hx, hb, hml, hr, hown, hts, hK, hE, hA, hJ, hAd, hlk, hst, hRm, hmd⟩ := id C
  exact lv_iadd hx hb h0 (k p l e R s m args below meth c H locs Q D nx nz ad ca A ls C hd hP hS hal hl)
theorem r_isub {a b : Int32} (h0 : dec q pc = .ok (.isub, 1)) (k : G q d x mc ms oc al cs ss (pc + 1) lv (.int (a - b) :: st) M) : G q d x mc ms oc al cs ss pc lv (.int b :: .int a :: st) M := by
  intro p l e R s m args below meth c H locs Q D nx nz ad ca A ls C hd hP hS hal hl
  obtain ⟨hx, hb, hml, hr, hown, hts, hK, hE, hA, hJ, hAd, hlk, hst, hRm, hmd⟩ := id C
  exact lv_isub hx hb h0 (k p l e R s m args below meth c H locs Q D nx nz ad ca A ls C hd hP hS hal hl)
theorem r_imul {a b : Int32} (h0 : dec q pc = .ok (.imul, 1)) (k : G q d x mc ms oc al cs ss (pc + 1) lv (.int (a * b) :: st) M) : G q d x mc ms oc al cs ss pc lv (.int b :: .int a :: st) M := by
  intro p l e R s m args below meth c H locs Q D nx nz ad ca A ls C hd hP hS hal hl
  obtain ⟨hx, hb, hml, hr, hown, hts, hK, hE, hA, hJ, hAd, hlk, hst, hRm, hmd⟩ := id C
  exact lv_imul hx hb h0 (k p l e R s m args below meth c H locs Q D nx nz ad ca A ls C hd hP hS hal hl)
theorem r_iand {a b : Int32} (h0 : dec q pc = .ok (.iand, 1)) (k : G q d x mc ms oc al cs ss (pc + 1) lv (.int (a &&& b) :: st) M) : G q d x mc ms oc al cs ss pc lv (.int b :: .int a :: st) M := by
  intro p l e R s m args below meth c H locs Q D nx nz ad ca A ls C hd hP hS hal hl
  obtain ⟨hx, hb, hml, hr, hown, hts, hK, hE, hA, hJ, hAd, hlk, hst, hRm, hmd⟩ := id C
  exact lv_iand hx hb h0 (k p l e R s m args below meth c H locs Q D nx nz ad ca A ls C hd hP hS hal hl)
theorem r_idiv {a b : Int32} (h0 : dec q pc = .ok (.idiv, 1)) (hne : ¬ b = 0) (k : G q d x mc ms oc al cs ss (pc + 1) lv (.int (a / b) :: st) M) : G q d x mc ms oc al cs ss pc lv (.int b :: .int a :: st) M := by
  intro p l e R s m args below meth c H locs Q D nx nz ad ca A ls C hd hP hS hal hl
  obtain ⟨hx, hb, hml, hr, hown, hts, hK, hE, hA, hJ, hAd, hlk, hst, hRm, hmd⟩ := id C
  exact lv_idiv hx hb h0 hne (k p l e R s m args below meth c H locs Q D nx nz ad ca A ls C hd hP hS hal hl)
theorem r_irem {a b : Int32} (h0 : dec q pc = .ok (.irem, 1)) (hne : ¬ b = 0) (k : G q d x mc ms oc al cs ss (pc + 1) lv (.int (a - a / b * b) :: st) M) : G q d x mc ms oc al cs ss pc lv (.int b :: .int a :: st) M := by
  intro p l e R s m args below meth c H locs Q D nx nz ad ca A ls C hd hP hS hal hl
  obtain ⟨hx, hb, hml, hr, hown, hts, hK, hE, hA, hJ, hAd, hlk, hst, hRm, hmd⟩ := id C
  exact lv_irem hx hb h0 hne (k p l e R s m args below meth c H locs Q D nx nz ad ca A ls C hd hP hS hal hl)
theorem r_ladd {a b : Int64} (h0 : dec q pc = .ok (.ladd, 1)) (k : G q d x mc ms oc al cs ss (pc + 1) lv (.long (a + b) :: st) M) : G q d x mc ms oc al cs ss pc lv (.long b :: .long a :: st) M := by
  intro p l e R s m args below meth c H locs Q D nx nz ad ca A ls C hd hP hS hal hl
  obtain ⟨hx, hb, hml, hr, hown, hts, hK, hE, hA, hJ, hAd, hlk, hst, hRm, hmd⟩ := id C
  exact lv_ladd hx hb h0 (k p l e R s m args below meth c H locs Q D nx nz ad ca A ls C hd hP hS hal hl)
theorem r_lsub {a b : Int64} (h0 : dec q pc = .ok (.lsub, 1)) (k : G q d x mc ms oc al cs ss (pc + 1) lv (.long (a - b) :: st) M) : G q d x mc ms oc al cs ss pc lv (.long b :: .long a :: st) M := by
  intro p l e R s m args below meth c H locs Q D nx nz ad ca A ls C hd hP hS hal hl
  obtain ⟨hx, hb, hml, hr, hown, hts, hK, hE, hA, hJ, hAd, hlk, hst, hRm, hmd⟩ := id C
  exact lv_lsub hx hb h0 (k p l e R s m args below meth c H locs Q D nx nz ad ca A ls C hd hP hS hal hl)
theorem r_lmul {a b : Int64} (h0 : dec q pc = .ok (.lmul, 1)) (k : G q d x mc ms oc al cs ss (pc + 1) lv (.long (a * b) :: st) M) : G q d x mc ms oc al cs ss pc lv (.long b :: .long a :: st) M := by
  intro p l e R s m args below meth c H locs Q D nx nz ad ca A ls C hd hP hS hal hl
  obtain ⟨hx, hb, hml, hr, hown, hts, hK, hE, hA, hJ, hAd, hlk, hst, hRm, hmd⟩ := id C
  exact lv_lmul hx hb h0 (k p l e R s m args below meth c H locs Q D nx nz ad ca A ls C hd hP hS hal hl)
theorem r_land {a b : Int64} (h0 : dec q pc = .ok (.land, 1)) (k : G q d x mc ms oc al cs ss (pc + 1) lv (.long (a &&& b) :: st) M) : G q d x mc ms oc al cs ss pc lv (.long b :: .long a :: st) M := by
  intro p l e R s m args below meth c H locs Q D nx nz ad ca A ls C hd hP hS hal hl
  obtain ⟨hx, hb, hml, hr, hown, hts, hK, hE, hA, hJ, hAd, hlk, hst, hRm, hmd⟩ := id C
  exact lv_land hx hb h0 (k p l e R s m args below meth c H locs Q D nx nz ad ca A ls C hd hP hS hal hl)
theorem r_lor {a b : Int64} (h0 : dec q pc = .ok (.lor, 1)) (k : G q d x mc ms oc al cs ss (pc + 1) lv (.long (a ||| b) :: st) M) : G q d x mc ms oc al cs ss pc lv (.long b :: .long a :: st) M := by
  intro p l e R s m args below meth c H locs Q D nx nz ad ca A ls C hd hP hS hal hl
  obtain ⟨hx, hb, hml, hr, hown, hts, hK, hE, hA, hJ, hAd, hlk, hst, hRm, hmd⟩ := id C
  exact lv_lor hx hb h0 (k p l e R s m args below meth c H locs Q D nx nz ad ca A ls C hd hP hS hal hl)
theorem r_ldiv {a b : Int64} (h0 : dec q pc = .ok (.ldiv, 1)) (hne : ¬ b = 0) (k : G q d x mc ms oc al cs ss (pc + 1) lv (.long (a / b) :: st) M) : G q d x mc ms oc al cs ss pc lv (.long b :: .long a :: st) M := by
  intro p l e R s m args below meth c H locs Q D nx nz ad ca A ls C hd hP hS hal hl
  obtain ⟨hx, hb, hml, hr, hown, hts, hK, hE, hA, hJ, hAd, hlk, hst, hRm, hmd⟩ := id C
  exact lv_ldiv hx hb h0 hne (k p l e R s m args below meth c H locs Q D nx nz ad ca A ls C hd hP hS hal hl)
theorem r_lrem {a b : Int64} (h0 : dec q pc = .ok (.lrem, 1)) (hne : ¬ b = 0) (k : G q d x mc ms oc al cs ss (pc + 1) lv (.long (a - a / b * b) :: st) M) : G q d x mc ms oc al cs ss pc lv (.long b :: .long a :: st) M := by
  intro p l e R s m args below meth c H locs Q D nx nz ad ca A ls C hd hP hS hal hl
  obtain ⟨hx, hb, hml, hr, hown, hts, hK, hE, hA, hJ, hAd, hlk, hst, hRm, hmd⟩ := id C
  exact lv_lrem hx hb h0 hne (k p l e R s m args below meth c H locs Q D nx nz ad ca A ls C hd hP hS hal hl)
theorem r_lcmp {a b : Int64} (h0 : dec q pc = .ok (.lcmp, 1)) (k : G q d x mc ms oc al cs ss (pc + 1) lv (.int (lg_cmp a b) :: st) M) : G q d x mc ms oc al cs ss pc lv (.long b :: .long a :: st) M := by
  intro p l e R s m args below meth c H locs Q D nx nz ad ca A ls C hd hP hS hal hl
  obtain ⟨hx, hb, hml, hr, hown, hts, hK, hE, hA, hJ, hAd, hlk, hst, hRm, hmd⟩ := id C
  exact W.lcmp hx hb h0 (k p l e R s m args below meth c H locs Q D nx nz ad ca A ls C hd hP hS hal hl)
theorem r_i2l {a : Int32} (h0 : dec q pc = .ok (.i2l, 1)) (k : G q d x mc ms oc al cs ss (pc + 1) lv (.long a.toInt64 :: st) M) : G q d x mc ms oc al cs ss pc lv (.int a :: st) M := by
  intro p l e R s m args below meth c H locs Q D nx nz ad ca A ls C hd hP hS hal hl
  obtain ⟨hx, hb, hml, hr, hown, hts, hK, hE, hA, hJ, hAd, hlk, hst, hRm, hmd⟩ := id C
  exact lv_i2l hx hb h0 rfl (k p l e R s m args below meth c H locs Q D nx nz ad ca A ls C hd hP hS hal hl)
theorem r_l2i {a : Int64} (h0 : dec q pc = .ok (.l2i, 1)) (k : G q d x mc ms oc al cs ss (pc + 1) lv (.int a.toInt32 :: st) M) : G q d x mc ms oc al cs ss pc lv (.long a :: st) M := by
  intro p l e R s m args below meth c H locs Q D nx nz ad ca A ls C hd hP hS hal hl
  obtain ⟨hx, hb, hml, hr, hown, hts, hK, hE, hA, hJ, hAd, hlk, hst, hRm, hmd⟩ := id C
  exact lv_l2i hx hb h0 rfl (k p l e R s m args below meth c H locs Q D nx nz ad ca A ls C hd hP hS hal hl)
theorem r_i2c {a : Int32} (h0 : dec q pc = .ok (.i2c, 1)) (k : G q d x mc ms oc al cs ss (pc + 1) lv (.int (a.toUInt32 % 65536).toInt32 :: st) M) : G q d x mc ms oc al cs ss pc lv (.int a :: st) M := by
  intro p l e R s m args below meth c H locs Q D nx nz ad ca A ls C hd hP hS hal hl
  obtain ⟨hx, hb, hml, hr, hown, hts, hK, hE, hA, hJ, hAd, hlk, hst, hRm, hmd⟩ := id C
  exact lv_i2c hx hb h0 rfl (k p l e R s m args below meth c H locs Q D nx nz ad ca A ls C hd hP hS hal hl)
theorem r_lushr {a : Int64} {b : Int32} (h0 : dec q pc = .ok (.lushr, 1)) (k : G q d x mc ms oc al cs ss (pc + 1) lv (.long (a.toUInt64 >>> (b.toInt64.toUInt64 &&& Int64.toUInt64 63)).toInt64 :: st) M) : G q d x mc ms oc al cs ss pc lv (.int b :: .long a :: st) M := by
  intro p l e R s m args below meth c H locs Q D nx nz ad ca A ls C hd hP hS hal hl
  obtain ⟨hx, hb, hml, hr, hown, hts, hK, hE, hA, hJ, hAd, hlk, hst, hRm, hmd⟩ := id C
  exact lv_lushr hx hb h0 rfl (k p l e R s m args below meth c H locs Q D nx nz ad ca A ls C hd hP hS hal hl)
theorem r_lshl {a : Int64} {b : Int32} (h0 : dec q pc = .ok (.lshl, 1)) (k : G q d x mc ms oc al cs ss (pc + 1) lv (.long (a <<< (b.toInt64 &&& 63)) :: st) M) : G q d x mc ms oc al cs ss pc lv (.int b :: .long a :: st) M := by
  intro p l e R s m args below meth c H locs Q D nx nz ad ca A ls C hd hP hS hal hl
  obtain ⟨hx, hb, hml, hr, hown, hts, hK, hE, hA, hJ, hAd, hlk, hst, hRm, hmd⟩ := id C
  exact lv_lshl hx hb h0 rfl (k p l e R s m args below meth c H locs Q D nx nz ad ca A ls C hd hP hS hal hl)
theorem r_dup {v : Value} (h0 : dec q pc = .ok (.dup, 1)) (hc : v.category = 1) (k : G q d x mc ms oc al cs ss (pc + 1) lv (v :: v :: st) M) : G q d x mc ms oc al cs ss pc lv (v :: st) M := by
  intro p l e R s m args below meth c H locs Q D nx nz ad ca A ls C hd hP hS hal hl
  obtain ⟨hx, hb, hml, hr, hown, hts, hK, hE, hA, hJ, hAd, hlk, hst, hRm, hmd⟩ := id C
  exact lv_dup hx hb h0 (by rw [cv_cat]; exact hc) (k p l e R s m args below meth c H locs Q D nx nz ad ca A ls C hd hP hS hal hl)
theorem r_pop {v : Value} (h0 : dec q pc = .ok (.pop, 1)) (hc : v.category = 1) (k : G q d x mc ms oc al cs ss (pc + 1) lv (st) M) : G q d x mc ms oc al cs ss pc lv (v :: st) M := by
  intro p l e R s m args below meth c H locs Q D nx nz ad ca A ls C hd hP hS hal hl
  obtain ⟨hx, hb, hml, hr, hown, hts, hK, hE, hA, hJ, hAd, hlk, hst, hRm, hmd⟩ := id C
  exact lv_pop hx hb h0 (by rw [cv_cat]; exact hc) (k p l e R s m args below meth c H locs Q D nx nz ad ca A ls C hd hP hS hal hl)
theorem r_dup2 {v w : Value} (h0 : dec q pc = .ok (.dup2, 1)) (hc : v.category = 1) (hc2 : w.category = 1) (k : G q d x mc ms oc al cs ss (pc + 1) lv (v :: w :: v :: w :: st) M) : G q d x mc ms oc al cs ss pc lv (v :: w :: st) M := by
  intro p l e R s m args below meth c H locs Q D nx nz ad ca A ls C hd hP hS hal hl
  obtain ⟨hx, hb, hml, hr, hown, hts, hK, hE, hA, hJ, hAd, hlk, hst, hRm, hmd⟩ := id C
  exact lv_dup2_11 hx hb h0 (by rw [cv_cat]; exact hc) (by rw [cv_cat]; exact hc2) (k p l e R s m args below meth c H locs Q D nx nz ad ca A ls C hd hP hS hal hl)
theorem r_if_eq {a : Int32} {z : Int} (tg : Nat) (ht : (pc : Int) + z = (tg : Int)) (h0 : dec q pc = .ok (.ifCond .eq z, 3)) (kt : a = 0 → G q d x mc ms oc al cs ss tg lv st M) (kf : ¬ a = 0 → G q d x mc ms oc al cs ss (pc + 3) lv st M) : G q d x mc ms oc al cs ss pc lv (.int a :: st) M := by
  intro p l e R s m args below meth c H locs Q D nx nz ad ca A ls C hd hP hS hal hl
  obtain ⟨hx, hb, hml, hr, hown, hts, hK, hE, hA, hJ, hAd, hlk, hst, hRm, hmd⟩ := id C
  exact lv_if_eq hx hb h0 ht (fun h9 => kt h9 p l e R s m args below meth c H locs Q D nx nz ad ca A ls C hd hP hS hal hl) (fun h9 => kf h9 p l e R s m args below meth c H locs Q D nx nz ad ca A ls C hd hP hS hal hl)
theorem r_icmp_eq {a b : Int32} {z : Int} (tg : Nat) (ht : (pc : Int) + z = (tg : Int)) (h0 : dec q pc = .ok (.if_icmp .eq z, 3)) (kt : a = b → G q d x mc ms oc al cs ss tg lv st M) (kf : ¬ a = b → G q d x mc ms oc al cs ss (pc + 3) lv st M) : G q d x mc ms oc al cs ss pc lv (.int b :: .int a :: st) M := by
  intro p l e R s m args below meth c H locs Q D nx nz ad ca A ls C hd hP hS hal hl
  obtain ⟨hx, hb, hml, hr, hown, hts, hK, hE, hA, hJ, hAd, hlk, hst, hRm, hmd⟩ := id C
  exact lv_icmp_eq hx hb h0 ht (fun h9 => kt h9 p l e R s m args below meth c H locs Q D nx nz ad ca A ls C hd hP hS hal hl) (fun h9 => kf h9 p l e R s m args below meth c H locs Q D nx nz ad ca A ls C hd hP hS hal hl)
theorem r_if_ne {a : Int32} {z : Int} (tg : Nat) (ht : (pc : Int) + z = (tg : Int)) (h0 : dec q pc = .ok (.ifCond .ne z, 3)) (kt : ¬ a = 0 → G q d x mc ms oc al cs ss tg lv st M) (kf : a = 0 → G q d x mc ms oc al cs ss (pc + 3) lv st M) : G q d x mc ms oc al cs ss pc lv (.int a :: st) M := by
  intro p l e R s m args below meth c H locs Q D nx nz ad ca A ls C hd hP hS hal hl
  obtain ⟨hx, hb, hml, hr, hown, hts, hK, hE, hA, hJ, hAd, hlk, hst, hRm, hmd⟩ := id C
  exact lv_if_ne hx hb h0 ht (fun h9 => kt h9 p l e R s m args below meth c H locs Q D nx nz ad ca A ls C hd hP hS hal hl) (fun h9 => kf h9 p l e R s m args below meth c H locs Q D nx nz ad ca A ls C hd hP hS hal hl)
theorem r_icmp_ne {a b : Int32} {z : Int} (tg : Nat) (ht : (pc : Int) + z = (tg : Int)) (h0 : dec q pc = .ok (.if_icmp .ne z, 3)) (kt : ¬ a = b → G q d x mc ms oc al cs ss tg lv st M) (kf : a = b → G q d x mc ms oc al cs ss (pc + 3) lv st M) : G q d x mc ms oc al cs ss pc lv (.int b :: .int a :: st) M := by
  intro p l e R s m args below meth c H locs Q D nx nz ad ca A ls C hd hP hS hal hl
  obtain ⟨hx, hb, hml, hr, hown, hts, hK, hE, hA, hJ, hAd, hlk, hst, hRm, hmd⟩ := id C
  exact lv_icmp_ne hx hb h0 ht (fun h9 => kt h9 p l e R s m args below meth c H locs Q D nx nz ad ca A ls C hd hP hS hal hl) (fun h9 => kf h9 p l e R s m args below meth c H locs Q D nx nz ad ca A ls C hd hP hS hal hl)
theorem r_if_lt {a : Int32} {z : Int} (tg : Nat) (ht : (pc : Int) + z = (tg : Int)) (h0 : dec q pc = .ok (.ifCond .lt z, 3)) (kt : a < 0 → G q d x mc ms oc al cs ss tg lv st M) (kf : ¬ a < 0 → G q d x mc ms oc al cs ss (pc + 3) lv st M) : G q d x mc ms oc al cs ss pc lv (.int a :: st) M := by
  intro p l e R s m args below meth c H locs Q D nx nz ad ca A ls C hd hP hS hal hl
  obtain ⟨hx, hb, hml, hr, hown, hts, hK, hE, hA, hJ, hAd, hlk, hst, hRm, hmd⟩ := id C
  exact lv_if_lt hx hb h0 ht (fun h9 => kt h9 p l e R s m args below meth c H locs Q D nx nz ad ca A ls C hd hP hS hal hl) (fun h9 => kf h9 p l e R s m args below meth c H locs Q D nx nz ad ca A ls C hd hP hS hal hl)
theorem r_icmp_lt {a b : Int32} {z : Int} (tg : Nat) (ht : (pc : Int) + z = (tg : Int)) (h0 : dec q pc = .ok (.if_icmp .lt z, 3)) (kt : a < b → G q d x mc ms oc al cs ss tg lv st M) (kf : ¬ a < b → G q d x mc ms oc al cs ss (pc + 3) lv st M) : G q d x mc ms oc al cs ss pc lv (.int b :: .int a :: st) M := by
  intro p l e R s m args below meth c H locs Q D nx nz ad ca A ls C hd hP hS hal hl
  obtain ⟨hx, hb, hml, hr, hown, hts, hK, hE, hA, hJ, hAd, hlk, hst, hRm, hmd⟩ := id C
  exact lv_icmp_lt hx hb h0 ht (fun h9 => kt h9 p l e R s m args below meth c H locs Q D nx nz ad ca A ls C hd hP hS hal hl) (fun h9 => kf h9 p l e R s m args below meth c H locs Q D nx nz ad ca A ls C hd hP hS hal hl)
theorem r_if_ge {a : Int32} {z : Int} (tg : Nat) (ht : (pc : Int) + z = (tg : Int)) (h0 : dec q pc = .ok (.ifCond .ge z, 3)) (kt : 0 ≤ a → G q d x mc ms oc al cs ss tg lv st M) (kf : ¬ 0 ≤ a → G q d x mc ms oc al cs ss (pc + 3) lv st M) : G q d x mc ms oc al cs ss pc lv (.int a :: st) M := by
  intro p l e R s m args below meth c H locs Q D nx nz ad ca A ls C hd hP hS hal hl
  obtain ⟨hx, hb, hml, hr, hown, hts, hK, hE, hA, hJ, hAd, hlk, hst, hRm, hmd⟩ := id C
  exact lv_if_ge hx hb h0 ht (fun h9 => kt h9 p l e R s m args below meth c H locs Q D nx nz ad ca A ls C hd hP hS hal hl) (fun h9 => kf h9 p l e R s m args below meth c H locs Q D nx nz ad ca A ls C hd hP hS hal hl)
theorem r_icmp_ge {a b : Int32} {z : Int} (tg : Nat) (ht : (pc : Int) + z = (tg : Int)) (h0 : dec q pc = .ok (.if_icmp .ge z, 3)) (kt : b ≤ a → G q d x mc ms oc al cs ss tg lv st M) (kf : ¬ b ≤ a → G q d x mc ms oc al cs ss (pc + 3) lv st M) : G q d x mc ms oc al cs ss pc lv (.int b :: .int a :: st) M := by
  intro p l e R s m args below meth c H locs Q D nx nz ad ca A ls C hd hP hS hal hl
  obtain ⟨hx, hb, hml, hr, hown, hts, hK, hE, hA, hJ, hAd, hlk, hst, hRm, hmd⟩ := id C
  exact lv_icmp_ge hx hb h0 ht (fun h9 => kt h9 p l e R s m args below meth c H locs Q D nx nz ad ca A ls C hd hP hS hal hl) (fun h9 => kf h9 p l e R s m args below meth c H locs Q D nx nz ad ca A ls C hd hP hS hal hl)
theorem r_if_gt {a : Int32} {z : Int} (tg : Nat) (ht : (pc : Int) + z = (tg : Int)) (h0 : dec q pc = .ok (.ifCond .gt z, 3)) (kt : 0 < a → G q d x mc ms oc al cs ss tg lv st M) (kf : ¬ 0 < a → G q d x mc ms oc al cs ss (pc + 3) lv st M) : G q d x mc ms oc al cs ss pc lv (.int a :: st) M := by
  intro p l e R s m args below meth c H locs Q D nx nz ad ca A ls C hd hP hS hal hl
  obtain ⟨hx, hb, hml, hr, hown, hts, hK, hE, hA, hJ, hAd, hlk, hst, hRm, hmd⟩ := id C
  exact lv_if_gt hx hb h0 ht (fun h9 => kt h9 p l e R s m args below meth c H locs Q D nx nz ad ca A ls C hd hP hS hal hl) (fun h9 => kf h9 p l e R s m args below meth c H locs Q D nx nz ad ca A ls C hd hP hS hal hl)
theorem r_icmp_gt {a b : Int32} {z : Int} (tg : Nat) (ht : (pc : Int) + z = (tg : Int)) (h0 : dec q pc = .ok (.if_icmp .gt z, 3)) (kt : b < a → G q d x mc ms oc al cs ss tg lv st M) (kf : ¬ b < a → G q d x mc ms oc al cs ss (pc + 3) lv st M) : G q d x mc ms oc al cs ss pc lv (.int b :: .int a :: st) M := by
  intro p l e R s m args below meth c H locs Q D nx nz ad ca A ls C hd hP hS hal hl
  obtain ⟨hx, hb, hml, hr, hown, hts, hK, hE, hA, hJ, hAd, hlk, hst, hRm, hmd⟩ := id C
  exact lv_icmp_gt hx hb h0 ht (fun h9 => kt h9 p l e R s m args below meth c H locs Q D nx nz ad ca A ls C hd hP hS hal hl) (fun h9 => kf h9 p l e R s m args below meth c H locs Q D nx nz ad ca A ls C hd hP hS hal hl)
theorem r_if_le {a : Int32} {z : Int} (tg : Nat) (ht : (pc : Int) + z = (tg : Int)) (h0 : dec q pc = .ok (.ifCond .le z, 3)) (kt : a ≤ 0 → G q d x mc ms oc al cs ss tg lv st M) (kf : ¬ a ≤ 0 → G q d x mc ms oc al cs ss (pc + 3) lv st M) : G q d x mc ms oc al cs ss pc lv (.int a :: st) M := by
  intro p l e R s m args below meth c H locs Q D nx nz ad ca A ls C hd hP hS hal hl
  obtain ⟨hx, hb, hml, hr, hown, hts, hK, hE, hA, hJ, hAd, hlk, hst, hRm, hmd⟩ := id C
  exact lv_if_le hx hb h0 ht (fun h9 => kt h9 p l e R s m args below meth c H locs Q D nx nz ad ca A ls C hd hP hS hal hl) (fun h9 => kf h9 p l e R s m args below meth c H locs Q D nx nz ad ca A ls C hd hP hS hal hl)
theorem r_icmp_le {a b : Int32} {z : Int} (tg : Nat) (ht : (pc : Int) + z = (tg : Int)) (h0 : dec q pc = .ok (.if_icmp .le z, 3)) (kt : a ≤ b → G q d x mc ms oc al cs ss tg lv st M) (kf : ¬ a ≤ b → G q d x mc ms oc al cs ss (pc + 3) lv st M) : G q d x mc ms oc al cs ss pc lv (.int b :: .int a :: st) M := by
  intro p l e R s m args below meth c H locs Q D nx nz ad ca A ls C hd hP hS hal hl
  obtain ⟨hx, hb, hml, hr, hown, hts, hK, hE, hA, hJ, hAd, hlk, hst, hRm, hmd⟩ := id C
  exact lv_icmp_le hx hb h0 ht (fun h9 => kt h9 p l e R s m args below meth c H locs Q D nx nz ad ca A ls C hd hP hS hal hl) (fun h9 => kf h9 p l e R s m args below meth c H locs Q D nx nz ad ca A ls C hd hP hS hal hl)
theorem r_goto {z : Int} (tg : Nat) (ht : (pc : Int) + z = (tg : Int)) (h0 : dec q pc = .ok (.goto z, 3)) (k : G q d x mc ms oc al cs ss tg lv st M) : G q d x mc ms oc al cs ss pc lv st M := by
  intro p l e R s m args below meth c H locs Q D nx nz ad ca A ls C hd hP hS hal hl
  obtain ⟨hx, hb, hml, hr, hown, hts, hK, hE, hA, hJ, hAd, hlk, hst, hRm, hmd⟩ := id C
  exact lv_goto hx hb h0 ht (k p l e R s m args below meth c H locs Q D nx nz ad ca A ls C hd hP hS hal hl)
theorem r_ifnull {a : Nat} {z : Int} (h0 : dec q pc = .ok (.ifnull z, 3)) (k : G q d x mc ms oc al cs ss (pc + 3) lv st M) : G q d x mc ms oc al cs ss pc lv (.ref a :: st) M := by
  intro p l e R s m args below meth c H locs Q D nx nz ad ca A ls C hd hP hS hal hl
  obtain ⟨hx, hb, hml, hr, hown, hts, hK, hE, hA, hJ, hAd, hlk, hst, hRm, hmd⟩ := id C
  exact lv_ifnull hx hb h0 (k p l e R s m args below meth c H locs Q D nx nz ad ca A ls C hd hP hS hal hl)
theorem r_ifnonnull {a : Nat} {z : Int} (tg : Nat) (ht : (pc : Int) + z = (tg : Int)) (h0 : dec q pc = .ok (.ifnonnull z, 3)) (k : G q d x mc ms oc al cs ss tg lv st M) : G q d x mc ms oc al cs ss pc lv (.ref a :: st) M := by
  intro p l e R s m args below meth c H locs Q D nx nz ad ca A ls C hd hP hS hal hl
  obtain ⟨hx, hb, hml, hr, hown, hts, hK, hE, hA, hJ, hAd, hlk, hst, hRm, hmd⟩ := id C
  exact lv_ifnonnull hx hb h0 ht (k p l e R s m args below meth c H locs Q D nx nz ad ca A ls C hd hP hS hal hl)
theorem r_tableIn {a : Int32} {dflt lo hi z : Int} {offs : Array Int} {len : Nat} (tg : Nat) (h1 : ¬ a.toInt < lo) (h2 : ¬ hi < a.toInt) (ho : offs[(a.toInt - lo).toNat]? = some z) (ht : (pc : Int) + z = (tg : Int)) (h0 : dec q pc = .ok (.tableswitch dflt lo hi offs, len)) (k : G q d x mc ms oc al cs ss tg lv st M) : G q d x mc ms oc al cs ss pc lv (.int a :: st) M := by
  intro p l e R s m args below meth c H locs Q D nx nz ad ca A ls C hd hP hS hal hl
  obtain ⟨hx, hb, hml, hr, hown, hts, hK, hE, hA, hJ, hAd, hlk, hst, hRm, hmd⟩ := id C
  exact lv_tableIn hx hb h0 h1 h2 ho ht (k p l e R s m args below meth c H locs Q D nx nz ad ca A ls C hd hP hS hal hl)
theorem r_tableOut {a : Int32} {dflt lo hi : Int} {offs : Array Int} {len : Nat} (tg : Nat) (h1 : a.toInt < lo ∨ hi < a.toInt) (ht : (pc : Int) + dflt = (tg : Int)) (h0 : dec q pc = .ok (.tableswitch dflt lo hi offs, len)) (k : G q d x mc ms oc al cs ss tg lv st M) : G q d x mc ms oc al cs ss pc lv (.int a :: st) M := by
  intro p l e R s m args below meth c H locs Q D nx nz ad ca A ls C hd hP hS hal hl
  obtain ⟨hx, hb, hml, hr, hown, hts, hK, hE, hA, hJ, hAd, hlk, hst, hRm, hmd⟩ := id C
  exact lv_tableOut hx hb h0 h1 ht (k p l e R s m args below meth c H locs Q D nx nz ad ca A ls C hd hP hS hal hl)
theorem r_lookup {a : Int32} {dflt z : Int} {ps : Array (Int × Int)} {len : Nat} (tg : Nat) (hp : (ps.toList.zip (ps.toList.drop 1)).all (fun (a, next) => a.1 < next.1) = true) (ho : Op.lookupswitch.offset ps.toList dflt a.toInt = z) (ht : (pc : Int) + z = (tg : Int)) (h0 : dec q pc = .ok (.lookupswitch dflt ps, len)) (k : G q d x mc ms oc al cs ss tg lv st M) : G q d x mc ms oc al cs ss pc lv (.int a :: st) M := by
  intro p l e R s m args below meth c H locs Q D nx nz ad ca A ls C hd hP hS hal hl
  obtain ⟨hx, hb, hml, hr, hown, hts, hK, hE, hA, hJ, hAd, hlk, hst, hRm, hmd⟩ := id C
  exact lv_lookup hx hb h0 hp ho ht (k p l e R s m args below meth c H locs Q D nx nz ad ca A ls C hd hP hS hal hl)
theorem r_getf {idx ci k b : Nat} {ty : FieldType} {fin : Bool} {vs : List Value} {v : Value} (fl : FL q.1.cls idx ci k ty fin) (h0 : dec q pc = .ok (.getfield idx, 3)) (hM : M b = some (cO ci vs)) (hv : vs[k]? = some v) (kk : G q d x mc ms oc al cs ss (pc + 3) lv (v :: st) M) : G q d x mc ms oc al cs ss pc lv (.ref b :: st) M := by
  intro p l e R s m args below meth c H locs Q D nx nz ad ca A ls C hd hP hS hal hl
  obtain ⟨hx, hb, hml, hr, hown, hts, hK, hE, hA, hJ, hAd, hlk, hst, hRm, hmd⟩ := id C
  obtain ⟨C0, T, N, g1, g2, g3, g4, g5, g6⟩ := fl
  refine va_get (D := D) (cl := vwCl) (ws := wl nx ad ca M) (tys := tysOf ca) (C := C0) (T := T) (N := N) (ci := ci) (ref := (T k).1) (fs := vs.map (cvV ad)) (v := cvV ad v) hx hb hts (clIn ci _ _ _ g1).1 hown hK hP b (wl_at (hd b _ hM) hM) g1 k g2 (hts _ g3) (fun _ h9 => h9) ?_ h0 (kk p l e R s m args below meth c H locs Q D nx nz ad ca A ls C hd hP hS hal hl)
  rw [List.getElem?_map, hv]; rfl
theorem r_putfI {idx ci k b : Nat} {vs : List Value} {v : Int32} (fl : FL q.1.cls idx ci k .int false) (h0 : dec q pc = .ok (.putfield idx, 3)) (hM : M b = some (cO ci vs)) (hk : k < vs.length) (kk : G q d x mc ms oc al cs ss (pc + 3) lv st (mset M b (cO ci (vs.set k (.int v))))) : G q d x mc ms oc al cs ss pc lv (.int v :: .ref b :: st) M := by
  intro p l e R s m args below meth c H locs Q D nx nz ad ca A ls C hd hP hS hal hl
  obtain ⟨hx, hb, hml, hr, hown, hts, hK, hE, hA, hJ, hAd, hlk, hst, hRm, hmd⟩ := id C
  obtain ⟨C0, T, N, g1, g2, g3, g4, g5, g6⟩ := fl
  obtain ⟨i1, i2, ty0, i3⟩ := clIn ci _ _ _ g1
  refine va_put (D := D) (cl := vwCl) (ws := wl nx ad ca M) (tys := tysOf ca) (A := A) (C := C0) (T := T) (N := N) (ci := ci) (ref := (T k).1) (fs := vs.map (cvV ad)) (v := cvV ad (.int v)) (ty := .int) hx hb hts i1 ty0 i3 i2 hown hK hP (wl_D hJ hAd) hS b (wl_at (hd b _ hM) hM) g1 k g2 (hts _ g3) (fun _ h9 => h9) g5 g4 rfl rfl (by simpa using hk) h0 (fun H1 locs1 hP1 _ hS1 => ?_)
  refine kk p l e R s m args below meth c H1 locs1 Q D nx nz ad ca A ls C (hd.set hM) (?_) hS1 hal hl
  rw [wl_set]
  have e9 : pcC ad ca (cO ci (vs.set k (.int v))) = .inr (ci, (vs.map (cvV ad)).set k (cvV ad (.int v))) := by show Sum.inr (ci, (vs.set k (.int v)).map (cvV ad)) = _; rw [List.map_set]
  rw [e9]; exact hP1
theorem r_putfR {idx ci k b : Nat} {ty : FieldType} {vs : List Value} {v : Nat} (fl : FL q.1.cls idx ci k ty false) (h0 : dec q pc = .ok (.putfield idx, 3)) (hM : M b = some (cO ci vs)) (hk : k < vs.length) (hfit : ∀ a, narrow ty (.ref a) = .ref a ∧ fits ty (.ref a) = true) (kk : G q d x mc ms oc al cs ss (pc + 3) lv st (mset M b (cO ci (vs.set k (.ref v))))) : G q d x mc ms oc al cs ss pc lv (.ref v :: .ref b :: st) M := by
  intro p l e R s m args below meth c H locs Q D nx nz ad ca A ls C hd hP hS hal hl
  obtain ⟨hx, hb, hml, hr, hown, hts, hK, hE, hA, hJ, hAd, hlk, hst, hRm, hmd⟩ := id C
  obtain ⟨C0, T, N, g1, g2, g3, g4, g5, g6⟩ := fl
  obtain ⟨i1, i2, ty0, i3⟩ := clIn ci _ _ _ g1
  refine va_put (D := D) (cl := vwCl) (ws := wl nx ad ca M) (tys := tysOf ca) (A := A) (C := C0) (T := T) (N := N) (ci := ci) (ref := (T k).1) (fs := vs.map (cvV ad)) (v := cvV ad (.ref v)) (ty := ty) hx hb hts i1 ty0 i3 i2 hown hK hP (wl_D hJ hAd) hS b (wl_at (hd b _ hM) hM) g1 k g2 (hts _ g3) (fun _ h9 => h9) g5 g4 (hfit _).1 (hfit _).2 (by simpa using hk) h0 (fun H1 locs1 hP1 _ hS1 => ?_)
  refine kk p l e R s m args below meth c H1 locs1 Q D nx nz ad ca A ls C (hd.set hM) (?_) hS1 hal hl
  rw [wl_set]
  have e9 : pcC ad ca (cO ci (vs.set k (.ref v))) = .inr (ci, (vs.map (cvV ad)).set k (cvV ad (.ref v))) := by show Sum.inr (ci, (vs.set k (.ref v)).map (cvV ad)) = _; rw [List.map_set]
  rw [e9]; exact hP1
theorem r_iald {b n : Nat} {f : Nat → Int32} {i : Int32} (h0 : dec q pc = .ok (.iaload, 1)) (hM : M b = some (cI n f)) (hi : vp_in i n) (k : G q d x mc ms oc al cs ss (pc + 1) lv (.int (f i.toNatClampNeg) :: st) M) : G q d x mc ms oc al cs ss pc lv (.int i :: .ref b :: st) M := by
  intro p l e R s m args below meth c H locs Q D nx nz ad ca A ls C hd hP hS hal hl
  obtain ⟨hx, hb, hml, hr, hown, hts, hK, hE, hA, hJ, hAd, hlk, hst, hRm, hmd⟩ := id C
  exact va_iald (D := D) (cl := vwCl) (ws := wl nx ad ca M) (tys := tysOf ca) hx hb hK hP b 0 (wl_at (hd b _ hM) hM) rfl hi h0 (k p l e R s m args below meth c H locs Q D nx nz ad ca A ls C hd hP hS hal hl)
theorem r_zald {b n : Nat} {f : Nat → Int32} {i : Int32} (h0 : dec q pc = .ok (.baload, 1)) (hM : M b = some (cZ n f)) (hi : vp_in i n) (k : G q d x mc ms oc al cs ss (pc + 1) lv (.int (f i.toNatClampNeg) :: st) M) : G q d x mc ms oc al cs ss pc lv (.int i :: .ref b :: st) M := by
  intro p l e R s m args below meth c H locs Q D nx nz ad ca A ls C hd hP hS hal hl
  obtain ⟨hx, hb, hml, hr, hown, hts, hK, hE, hA, hJ, hAd, hlk, hst, hRm, hmd⟩ := id C
  exact va_zald (D := D) (cl := vwCl) (ws := wl nx ad ca M) (tys := tysOf ca) hx hb hK hP b 1 (wl_at (hd b _ hM) hM) rfl hi h0 (k p l e R s m args below meth c H locs Q D nx nz ad ca A ls C hd hP hS hal hl)
theorem r_cald {b n : Nat} {f : Nat → Int32} {i : Int32} (h0 : dec q pc = .ok (.caload, 1)) (hM : M b = some (cC n f)) (hi : vp_in i n) (k : G q d x mc ms oc al cs ss (pc + 1) lv (.int (f i.toNatClampNeg) :: st) M) : G q d x mc ms oc al cs ss pc lv (.int i :: .ref b :: st) M := by
  intro p l e R s m args below meth c H locs Q D nx nz ad ca A ls C hd hP hS hal hl
  obtain ⟨hx, hb, hml, hr, hown, hts, hK, hE, hA, hJ, hAd, hlk, hst, hRm, hmd⟩ := id C
  exact va_cald (D := D) (cl := vwCl) (ws := wl nx ad ca M) (tys := tysOf ca) hx hb hK hP b 2 (wl_at (hd b _ hM) hM) rfl hi h0 (k p l e R s m args below meth c H locs Q D nx nz ad ca A ls C hd hP hS hal hl)
theorem r_aald {b n y : Nat} {f : Nat → Option Nat} {i : Int32} (h0 : dec q pc = .ok (.aaload, 1)) (hM : M b = some (cS n f)) (hi : vp_in i n) (hf : f i.toNatClampNeg = some y) (k : G q d x mc ms oc al cs ss (pc + 1) lv (.ref y :: st) M) : G q d x mc ms oc al cs ss pc lv (.int i :: .ref b :: st) M := by
  intro p l e R s m args below meth c H locs Q D nx nz ad ca A ls C hd hP hS hal hl
  obtain ⟨hx, hb, hml, hr, hown, hts, hK, hE, hA, hJ, hAd, hlk, hst, hRm, hmd⟩ := id C
  refine va_aldq (D := D) (cl := vwCl) (ws := wl nx ad ca M) (tys := tysOf ca) hx hb hK hP b 4 (wl_at (hd b _ hM) hM) rfl hi h0 ?_
  rw [hf]
  exact k p l e R s m args below meth c H locs Q D nx nz ad ca A ls C hd hP hS hal hl
theorem r_iast {b n : Nat} {f : Nat → Int32} {i : Int32} {v : Int32} (h0 : dec q pc = .ok (.iastore, 1)) (hM : M b = some (cI n f)) (hi : vp_in i n) (k : G q d x mc ms oc al cs ss (pc + 1) lv st (mset M b (cI n (upd f i.toNatClampNeg v)))) : G q d x mc ms oc al cs ss pc lv (.int v :: .int i :: .ref b :: st) M := by
  intro p l e R s m args below meth c H locs Q D nx nz ad ca A ls C hd hP hS hal hl
  obtain ⟨hx, hb, hml, hr, hown, hts, hK, hE, hA, hJ, hAd, hlk, hst, hRm, hmd⟩ := id C
  refine va_iast (D := D) (cl := vwCl) (ws := wl nx ad ca M) (tys := tysOf ca) (A := A) hx hb hK hP (wl_D hJ hAd) hS b 0 (wl_at (hd b _ hM) hM) rfl hi h0 (fun H1 locs1 hP1 _ hS1 => ?_)
  refine k p l e R s m args below meth c H1 locs1 Q D nx nz ad ca A ls C (hd.set hM) (?_) hS1 hal hl
  rw [wl_set]; exact hP1
theorem r_zast {b n : Nat} {f : Nat → Int32} {i : Int32} {v : Int32} (h0 : dec q pc = .ok (.bastore, 1)) (hM : M b = some (cZ n f)) (hi : vp_in i n) (k : G q d x mc ms oc al cs ss (pc + 1) lv st (mset M b (cZ n (upd f i.toNatClampNeg (vp_nar .boolean v))))) : G q d x mc ms oc al cs ss pc lv (.int v :: .int i :: .ref b :: st) M := by
  intro p l e R s m args below meth c H locs Q D nx nz ad ca A ls C hd hP hS hal hl
  obtain ⟨hx, hb, hml, hr, hown, hts, hK, hE, hA, hJ, hAd, hlk, hst, hRm, hmd⟩ := id C
  refine va_zast (D := D) (cl := vwCl) (ws := wl nx ad ca M) (tys := tysOf ca) (A := A) hx hb hK hP (wl_D hJ hAd) hS b 1 (wl_at (hd b _ hM) hM) rfl hi h0 (fun H1 locs1 hP1 _ hS1 => ?_)
  refine k p l e R s m args below meth c H1 locs1 Q D nx nz ad ca A ls C (hd.set hM) (?_) hS1 hal hl
  rw [wl_set]; exact hP1
theorem r_cast {b n : Nat} {f : Nat → Int32} {i : Int32} {v : Int32} (h0 : dec q pc = .ok (.castore, 1)) (hM : M b = some (cC n f)) (hi : vp_in i n) (k : G q d x mc ms oc al cs ss (pc + 1) lv st (mset M b (cC n (upd f i.toNatClampNeg (vp_nar .char v))))) : G q d x mc ms oc al cs ss pc lv (.int v :: .int i :: .ref b :: st) M := by
  intro p l e R s m args below meth c H locs Q D nx nz ad ca A ls C hd hP hS hal hl
  obtain ⟨hx, hb, hml, hr, hown, hts, hK, hE, hA, hJ, hAd, hlk, hst, hRm, hmd⟩ := id C
  refine va_cast (D := D) (cl := vwCl) (ws := wl nx ad ca M) (tys := tysOf ca) (A := A) hx hb hK hP (wl_D hJ hAd) hS b 2 (wl_at (hd b _ hM) hM) rfl hi h0 (fun H1 locs1 hP1 _ hS1 => ?_)
  refine k p l e R s m args below meth c H1 locs1 Q D nx nz ad ca A ls C (hd.set hM) (?_) hS1 hal hl
  rw [wl_set]; exact hP1
theorem r_alenI {b n : Nat} {f : Nat → Int32} (h0 : dec q pc = .ok (.arraylength, 1)) (hM : M b = some (cI n f)) (k : G q d x mc ms oc al cs ss (pc + 1) lv (.int (nI n) :: st) M) : G q d x mc ms oc al cs ss pc lv (.ref b :: st) M := by
  intro p l e R s m args below meth c H locs Q D nx nz ad ca A ls C hd hP hS hal hl
  obtain ⟨hx, hb, hml, hr, hown, hts, hK, hE, hA, hJ, hAd, hlk, hst, hRm, hmd⟩ := id C
  exact va_alen (D := D) (cl := vwCl) (ws := wl nx ad ca M) (tys := tysOf ca) hx hb hK hP b 0 (wl_at (hd b _ hM) hM) rfl rfl h0 (k p l e R s m args below meth c H locs Q D nx nz ad ca A ls C hd hP hS hal hl)
theorem r_alenZ {b n : Nat} {f : Nat → Int32} (h0 : dec q pc = .ok (.arraylength, 1)) (hM : M b = some (cZ n f)) (k : G q d x mc ms oc al cs ss (pc + 1) lv (.int (nI n) :: st) M) : G q d x mc ms oc al cs ss pc lv (.ref b :: st) M := by
  intro p l e R s m args below meth c H locs Q D nx nz ad ca A ls C hd hP hS hal hl
  obtain ⟨hx, hb, hml, hr, hown, hts, hK, hE, hA, hJ, hAd, hlk, hst, hRm, hmd⟩ := id C
  exact va_alen (D := D) (cl := vwCl) (ws := wl nx ad ca M) (tys := tysOf ca) hx hb hK hP b 1 (wl_at (hd b _ hM) hM) rfl rfl h0 (k p l e R s m args below meth c H locs Q D nx nz ad ca A ls C hd hP hS hal hl)
theorem r_alenC {b n : Nat} {f : Nat → Int32} (h0 : dec q pc = .ok (.arraylength, 1)) (hM : M b = some (cC n f)) (k : G q d x mc ms oc al cs ss (pc + 1) lv (.int (nI n) :: st) M) : G q d x mc ms oc al cs ss pc lv (.ref b :: st) M := by
  intro p l e R s m args below meth c H locs Q D nx nz ad ca A ls C hd hP hS hal hl
  obtain ⟨hx, hb, hml, hr, hown, hts, hK, hE, hA, hJ, hAd, hlk, hst, hRm, hmd⟩ := id C
  exact va_alen (D := D) (cl := vwCl) (ws := wl nx ad ca M) (tys := tysOf ca) hx hb hK hP b 2 (wl_at (hd b _ hM) hM) rfl rfl h0 (k p l e R s m args below meth c H locs Q D nx nz ad ca A ls C hd hP hS hal hl)
theorem r_alenS {b n : Nat} {f : Nat → Option Nat} (h0 : dec q pc = .ok (.arraylength, 1)) (hM : M b = some (cS n f)) (k : G q d x mc ms oc al cs ss (pc + 1) lv (.int (nI n) :: st) M) : G q d x mc ms oc al cs ss pc lv (.ref b :: st) M := by
  intro p l e R s m args below meth c H locs Q D nx nz ad ca A ls C hd hP hS hal hl
  obtain ⟨hx, hb, hml, hr, hown, hts, hK, hE, hA, hJ, hAd, hlk, hst, hRm, hmd⟩ := id C
  exact va_alen (D := D) (cl := vwCl) (ws := wl nx ad ca M) (tys := tysOf ca) hx hb hK hP b 4 (wl_at (hd b _ hM) hM) rfl rfl h0 (k p l e R s m args below meth c H locs Q D nx nz ad ca A ls C hd hP hS hal hl)
end RULES

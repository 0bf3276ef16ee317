/-! throwing an exception of one's own: new, dup, ldc, invokespecial, athrow -/
def xNm : List String := ["java/lang/RuntimeException", "java/lang/Exception"]
/-- the words of a throw of E by class own, by its places ik and ic -/
def thW (own : String) (ik ic : Nat) (E : String) : Prop := Cond.classLink own ik E ∈ tblG ∧ Cond.initialized E ∈ tblG ∧ (∀ w ∈ (vx_atS own ic E xNm).filter goodWord, w ∈ tblG) ∧ (∀ w ∈ (vx_atS own ic E xNm).filter (fun w => !goodWord w), w ∈ excW) ∧ (∀ w ∈ Cond.classLink own ik E :: Cond.initialized E :: vx_atS own ic E xNm, vx_ot w = true) ∧ Bundle.fit E = true ∧ ∀ n ∈ xNm, Bundle.fit n = true
theorem th_44 : thW RX7 44 48 xIAE := ⟨by decide +kernel, by decide +kernel, by decide +kernel, by decide +kernel, by decide +kernel, by decide +kernel, by decide +kernel⟩
theorem th_55 : thW RX7 55 59 xISE := ⟨by decide +kernel, by decide +kernel, by decide +kernel, by decide +kernel, by decide +kernel, by decide +kernel, by decide +kernel⟩
theorem th_151 : thW RX7 151 155 xIOB := ⟨by decide +kernel, by decide +kernel, by decide +kernel, by decide +kernel, by decide +kernel, by decide +kernel, by decide +kernel⟩
section THROW
variable {q : MI} {d : Nat} {x : XM} {mc ms : Nat} {oc : TG} {al : Option Nat} {cs ss pc : Nat} {lv : List (Option Value)} {st : List Value} {M : Mem}
theorem G_throw {ik is ic : Nat} {E tx : String} (kk : Nat) (hxx : x = .inl true) (hal0 : al = none) (th : thW q.1.cls ik ic E) (hw : strs[kk]? = some (q.1.cls, is, tx)) (d0 : dec q pc = .ok (.new ik, 3)) (d3 : dec q (pc + 3) = .ok (.dup, 1)) (d4 : dec q (pc + 4) = .ok (.ldc is, 2)) (d6 : dec q (pc + 6) = .ok (.invokespecial ic, 3)) (d9 : dec q (pc + 9) = .ok (.athrow, 1))
    (g_d : 6 ≤ d) (hcs : cs + 1 ≤ mc) (hss : ss + 6 ≤ ms) (hoc : oc (.inr E) M) : G q d x mc ms oc al cs ss pc lv [] M := by
  intro p l e R s m args below meth c H locs Q D nx nz ad ca A ls C hd hP hS hal hl
  obtain ⟨hx, hb, hml, hr, hown, hts, hK, hE, hA, hJ, hAd, hlk, hst, hRm, hmd⟩ := id C
  obtain ⟨t1, t2, t3, t4, t5, t6, t7⟩ := th
  subst hxx hal0
  obtain ⟨hq, htab⟩ := hmd
  have hnz : nz = nx := hal
  subst hnz
  rw [hq]
  have hR1 := hRm.1
  have hR2 := hRm.2.1
  have hR3 := hRm.2.2
  exact vx_throwS (cc := mC q) (pc := pc) (A := A) (text := tx) (names := xNm) (is := is) (sa := ad (2000 + kk)) (rest := []) hx hb hst hown t6 t7 (hts _ t1) (hts _ t2) (hE.1 kk _ hw) (vx_hat (B := excW) (fun w h => hts w (t3 w h)) t4 (fun w h => va_Nw.use (excW_ot w h) (hE.2.2.2.1.2.1 w h))) t5 hE.2.2.1 hE.2.2.2.1.1 hS (hl.size.trans hml.symm) d0 d3 d4 d6 d9 (fun z hz => absurd hz (htab z)) (by show 2 + 3 < R.frames; omega) (by show 0 + (13 * (2 + 1) + 43) ≤ R.locals; omega) (by omega) (by omega) hlk
    (fun t _ hz hk => ⟨⟨M, hoc, hd, hP.kept (fun k q9 h9 => hk q9.1 (hP k q9 h9).lt)⟩, Nat.le_trans hS.1 hz, fun q9 h1 h2 => (hk q9 (Nat.lt_of_lt_of_le h1 hS.1)).trans (hS.2.1 q9 h1 h2)⟩) hS.2.2 hcs hss
theorem G_throwW {ik is ic : Nat} {E tx : String} (kk : Nat) (hxx : x = .inl true) (hal0 : al = none) (th : thW q.1.cls ik ic E) (hw : strs[kk]? = some (q.1.cls, is, tx)) (d0 : dec q pc = .ok (.new ik, 3)) (d3 : dec q (pc + 3) = .ok (.dup, 1)) (d4 : dec q (pc + 4) = .ok (.ldc_w is, 3)) (d7 : dec q (pc + 7) = .ok (.invokespecial ic, 3)) (d10 : dec q (pc + 10) = .ok (.athrow, 1))
    (g_d : 6 ≤ d) (hcs : cs + 1 ≤ mc) (hss : ss + 6 ≤ ms) (hoc : oc (.inr E) M) : G q d x mc ms oc al cs ss pc lv [] M := by
  intro p l e R s m args below meth c H locs Q D nx nz ad ca A ls C hd hP hS hal hl
  obtain ⟨hx, hb, hml, hr, hown, hts, hK, hE, hA, hJ, hAd, hlk, hst, hRm, hmd⟩ := id C
  obtain ⟨t1, t2, t3, t4, t5, t6, t7⟩ := th
  subst hxx hal0
  obtain ⟨hq, htab⟩ := hmd
  have hnz : nz = nx := hal
  subst hnz
  rw [hq]
  have hR1 := hRm.1
  have hR2 := hRm.2.1
  have hR3 := hRm.2.2
  exact vx_throwSW (cc := mC q) (pc := pc) (A := A) (text := tx) (names := xNm) (is := is) (sa := ad (2000 + kk)) (rest := []) hx hb hst hown t6 t7 (hts _ t1) (hts _ t2) (hE.1 kk _ hw) (vx_hat (B := excW) (fun w h => hts w (t3 w h)) t4 (fun w h => va_Nw.use (excW_ot w h) (hE.2.2.2.1.2.1 w h))) t5 hE.2.2.1 hE.2.2.2.1.1 hS (hl.size.trans hml.symm) d0 d3 d4 d7 d10 (fun z hz => absurd hz (htab z)) (by show 2 + 3 < R.frames; omega) (by show 0 + (13 * (2 + 1) + 43) ≤ R.locals; omega) (by omega) (by omega) hlk
    (fun t _ hz hk => ⟨⟨M, hoc, hd, hP.kept (fun k q9 h9 => hk q9.1 (hP k q9 h9).lt)⟩, Nat.le_trans hS.1 hz, fun q9 h1 h2 => (hk q9 (Nat.lt_of_lt_of_le h1 hS.1)).trans (hS.2.1 q9 h1 h2)⟩) hS.2.2 hcs hss
end THROW

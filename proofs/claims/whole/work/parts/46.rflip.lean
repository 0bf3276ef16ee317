section RSWAP
variable {M : Mem} {a : Nat} {f : Nat → Int32} {z : ZS}
set_option maxRecDepth 20000 in
theorem s8_swapOn (hI : InvR f z) (hZ : ZOK z) {j k : Nat} (hj : j < zt z) (hk : k < zt z) (hjk : j ≠ k) : SpecP mX8_swapOn 7 0 0 [.ref a, .int (nI (zF z j)), .int (nI (zF z k))] (rset M a f) (tR (some (.int (iI (sgZ z j k)))) M a (swapZ z j k)) := by
  have hd := hZ.dims
  have hqj := hZ.fq hj
  have hqk := hZ.fq hk
  have htj := hZ.t hj
  have htk := hZ.t hk
  have hne : zF z j ≠ zF z k := fun e => hjk (hZ.finj hj hk e)
  refine Spec_of [some (.ref a), some (.int (nI (zF z j))), some (.int (nI (zF z k))), none, none] (by decide) (Nat.le_of_ble_eq_true rfl) rfl ?_
  refine r_aload0 (pc := 0) dX8_swapOn_0 ?_
  refine r_iload1 (pc := 1) dX8_swapOn_1 ?_
  refine r_iload2 (pc := 2) dX8_swapOn_2 ?_
  refine r_callS3i (pc := 3) lk_X8_97 dX8_swapOn_3 (s8_gainOfSwap mset_same hI hZ hj hk) (by decide) (Nat.le_of_ble_eq_true rfl) ⟨Nat.zero_le _, Nat.zero_le _⟩ ?_
  refine r_istore3 (pc := 6) dX8_swapOn_6 rfl ?_
  refine r_aload0 (pc := 7) dX8_swapOn_7 ?_
  refine n_sipush (pc := 8) 227 (by decide) dX8_swapOn_8 ?_
  refine r_iload1 (pc := 11) dX8_swapOn_11 ?_
  first | refine n_iadd (pc := 12) dX8_swapOn_12 ?_ | refine z_iadd (pc := 12) dX8_swapOn_12 ?_ | refine r_iadd (pc := 12) dX8_swapOn_12 ?_
  refine n_iald (pc := 13) dX8_swapOn_13 mset_same (by omega) (by decide) (hI.T hj) ?_
  refine r_istore4 (pc := 14) dX8_swapOn_14 rfl ?_
  refine r_aload0 (pc := 16) dX8_swapOn_16 ?_
  refine r_iload1 (pc := 17) dX8_swapOn_17 ?_
  refine r_aload0 (pc := 18) dX8_swapOn_18 ?_
  refine n_sipush (pc := 19) 227 (by decide) dX8_swapOn_19 ?_
  refine r_iload2 (pc := 22) dX8_swapOn_22 ?_
  first | refine n_iadd (pc := 23) dX8_swapOn_23 ?_ | refine z_iadd (pc := 23) dX8_swapOn_23 ?_ | refine r_iadd (pc := 23) dX8_swapOn_23 ?_
  refine n_iald (pc := 24) dX8_swapOn_24 mset_same (by omega) (by decide) (hI.T hk) ?_
  refine r_callS3v (pc := 25) lk_X8_100 dX8_swapOn_25 (g8_layTile hI.toG hZ hqj (hZ.oq hj) htk (lay_L hI hZ hj)) (by decide) (Nat.le_of_ble_eq_true rfl) ⟨Nat.zero_le _, Nat.zero_le _⟩ ?_
  have h1 := hI.lay hZ hj htk
  have hZ1 : ZOK (layT z j (zT z k)) := layT_ok hZ htk
  refine r_aload0 (pc := 28) dX8_swapOn_28 ?_
  refine r_iload2 (pc := 29) dX8_swapOn_29 ?_
  refine r_iload4 (pc := 30) dX8_swapOn_30 ?_
  refine r_callS3v (pc := 32) lk_X8_100 dX8_swapOn_32 (g8_layTile h1.toG hZ1 (s := zF z k) (o := zO z k) hqk (hZ.oq hk) (t := zT z j) htj (lay_L h1 hZ1 hk)) (by decide) (Nat.le_of_ble_eq_true rfl) ⟨Nat.zero_le _, Nat.zero_le _⟩ ?_
  have h2 := h1.lay hZ1 (k := k) (t := zT z j) hk htj
  refine r_aload0 (pc := 35) dX8_swapOn_35 ?_
  refine n_iconst_2 (pc := 36) dX8_swapOn_36 ?_
  refine r_dup2 (pc := 37) dX8_swapOn_37 rfl rfl ?_
  refine n_iald (pc := 38) dX8_swapOn_38 mset_same (by omega) (by decide) rfl ?_
  refine n_iconst_1 (pc := 39) dX8_swapOn_39 ?_
  first | refine n_iadd (pc := 40) dX8_swapOn_40 ?_ | refine z_iadd (pc := 40) dX8_swapOn_40 ?_ | refine r_iadd (pc := 40) dX8_swapOn_40 ?_
  refine n_iast (pc := 41) dX8_swapOn_41 mset_same (by omega) (by decide) ?_
  refine G_M mset_mset ?_
  refine r_iload3 (pc := 42) dX8_swapOn_42 ?_
  refine p_ireturn (pc := 43) false rfl rfl rfl dX8_swapOn_43 (Nat.zero_le _) (Nat.zero_le _) (Or.inl rfl) ⟨rfl, _, ?_, rfl⟩
  exact InvR.chg (h2.ren (swap_ren hjk))
/-- the row of a turned block, before its places are numbered anew -/
theorem flip_row {z : ZS} {f : Nat → Int32} (hI : InvR f z) (hZ : ZOK z) {k l : Nat} (hk : k < zt z) (hp : part z k = some l) {lv : Nat} (hlv : lv = 3 - lz z k) {f7 f9 : Nat → Int32}
    (e7 : f7 = upd (upd (upd (upd (upd (upd (upd f (115 + zF z l) (nI 0)) (227 + zF z l) (nI 0)) (339 + zF z l) (nI 0)) (451 + zF z l) (nI 0)) (115 + zF z k) (nI lv)) (115 + fst2 z k) (nI lv)) (451 + fst2 z k) (nI (zH z l)))
    (e9 : f9 = upd (upd (upd (upd f7 (227 + zF z k) (nI (zT z k))) (339 + zF z k) (nI (bet z (zF z k) (zF z k + stp z k) (zT z k)))) (227 + fst2 z k) (nI (zT z l))) (339 + fst2 z k) (nI (bet z (fst2 z k) (fst2 z k + stp z k) (zT z l)))) :
    InvR f9 (layW (layW (fl1 z k l) k) l) := by
  have hd := hZ.dims
  have hl := part_lt hZ hp
  have hqk := hZ.fq hk
  have hql := hZ.fq hl
  have hok := hZ.oq hk
  have hol := hZ.oq hl
  have fk := hZ.fo hk
  have fl := hZ.fo hl
  obtain ⟨g1, g2, g3, g4⟩ := part_geo hZ hk hp
  have n1 := hZ.fno hk hk
  have n2 := hZ.fno hl hk
  have n3 : zF z k ≠ zF z l := fun e => g4 (hZ.finj hl hk e.symm)
  generalize hA : zF z k = A at *
  generalize hB : zF z l = B at *
  generalize hC : fst2 z k = C at *
  subst e9
  have pfx : ∀ i, i ≠ 227 + A → i ≠ 339 + A → i ≠ 227 + C → i ≠ 339 + C → upd (upd (upd (upd f7 (227 + A) (nI (zT z k))) (339 + A) (nI (bet z A (A + stp z k) (zT z k)))) (227 + C) (nI (zT z l))) (339 + C) (nI (bet z C (C + stp z k) (zT z l))) i = f7 i := by
    intro i h1 h2 h3 h4
    rw [upd_ne h4, upd_ne h3, upd_ne h2, upd_ne h1]
  have p7 : ∀ i, i ≠ 115 + B → i ≠ 227 + B → i ≠ 339 + B → i ≠ 451 + B → i ≠ 115 + A → i ≠ 115 + C → i ≠ 451 + C → f7 i = f i := by
    intro i h1 h2 h3 h4 h5 h6 h7
    rw [e7, upd_ne h7, upd_ne h6, upd_ne h5, upd_ne h4, upd_ne h3, upd_ne h2, upd_ne h1]
  have hlp := lz_pos z k
  have hzl : lz z l = lz z k := by
    obtain ⟨q1, q2, q3⟩ := part_F hZ hp
    unfold lz; rw [q2]
  have lzk : lz (layW (layW (fl1 z k l) k) l) k = lv ∧ lz (layW (layW (fl1 z k l) k) l) l = lv := by
    have b1 : al (layW (layW (fl1 z k l) k) l) k = decide (A + stp z k = A + 1) := by
      show decide (zO (fl1 z k l) k = zF (fl1 z k l) k + 1) = _
      rw [fl1_F, fl1_O, if_neg (Ne.symm g4), if_pos rfl, hA]
    have b2 : al (layW (layW (fl1 z k l) k) l) l = decide (C + stp z k = C + 1) := by
      show decide (zO (fl1 z k l) l = zF (fl1 z k l) l + 1) = _
      rw [fl1_F, fl1_O, if_pos rfl, if_neg g4, hC, ← g3]
    rcases al_iff hZ hk with ⟨a1, a2, a3, a4⟩ | ⟨a1, a2, a4⟩
    · have f2 : stp z k = zc z := by unfold stp; rw [a1]; rfl
      have b1 : al (layW (layW (fl1 z k l) k) l) k = false := by rw [b1]; exact decide_eq_false (by omega)
      have b2 : al (layW (layW (fl1 z k l) k) l) l = false := by rw [b2]; exact decide_eq_false (by omega)
      rw [hlv, a4]
      exact ⟨by unfold lz; rw [b1]; rfl, by unfold lz; rw [b2]; rfl⟩
    · have f2 : stp z k = 1 := by unfold stp; rw [a1]; rfl
      have b1 : al (layW (layW (fl1 z k l) k) l) k = true := by rw [b1]; exact decide_eq_true (by omega)
      have b2 : al (layW (layW (fl1 z k l) k) l) l = true := by rw [b2]; exact decide_eq_true (by omega)
      rw [hlv, a4]
      exact ⟨by unfold lz; rw [b1]; rfl, by unfold lz; rw [b2]; rfl⟩
  refine ⟨⟨?_, ?_, ?_⟩, fun s hs => ?_, fun i hi => ?_, fun s hs hn => ?_⟩
  · rw [pfx _ (by omega) (by omega) (by omega) (by omega), p7 _ (by omega) (by omega) (by omega) (by omega) (by omega) (by omega) (by omega)]; exact hI.n
  · rw [pfx _ (by omega) (by omega) (by omega) (by omega), p7 _ (by omega) (by omega) (by omega) (by omega) (by omega) (by omega) (by omega)]; exact hI.s
  · rw [pfx _ (by omega) (by omega) (by omega) (by omega), p7 _ (by omega) (by omega) (by omega) (by omega) (by omega) (by omega) (by omega)]; exact hI.ch
  · have hs : s < zq z := hs
    rw [pfx _ (by omega) (by omega) (by omega) (by omega), p7 _ (by omega) (by omega) (by omega) (by omega) (by omega) (by omega) (by omega)]; exact hI.G hs
  · have hi : i < zt z := hi
    have qU : zU (layW (layW (fl1 z k l) k) l) i = ups (ups (zU z) k (bet z (zF (fl1 z k l) k) (zO (fl1 z k l) k) (zT z k))) l (bet z (zF (fl1 z k l) l) (zO (fl1 z k l) l) (zT z l)) i := rfl
    have qF : zF (layW (layW (fl1 z k l) k) l) i = zF (fl1 z k l) i := rfl
    rw [fl1_F, fl1_O, fl1_F, fl1_O, if_neg (Ne.symm g4), if_pos rfl, if_pos rfl, if_neg g4, hA, hC, ← g3] at qU
    rw [fl1_F, hC] at qF
    by_cases ek : i = k
    · subst ek
      rw [if_neg (Ne.symm g4), hA] at qF
      rw [ups_ne (Ne.symm g4), ups_same] at qU
      rw [qF, qU, lzk.1]
      refine ⟨?_, ?_, ?_, ?_⟩
      · rw [pfx _ (by omega) (by omega) (by omega) (by omega), e7, upd_ne (by omega), upd_ne (by omega), upd_same]
      · rw [upd_ne (by omega), upd_ne (by omega), upd_ne (by omega), upd_same]; rfl
      · rw [upd_ne (by omega), upd_ne (by omega), upd_same]
      · rw [pfx _ (by omega) (by omega) (by omega) (by omega), p7 _ (by omega) (by omega) (by omega) (by omega) (by omega) (by omega) (by omega), ← hA]; exact hI.H hk
    · by_cases el : i = l
      · subst el
        rw [if_pos rfl] at qF
        rw [ups_same] at qU
        rw [qF, qU, lzk.2]
        refine ⟨?_, ?_, ?_, ?_⟩
        · rw [pfx _ (by omega) (by omega) (by omega) (by omega), e7, upd_ne (by omega), upd_same]
        · rw [upd_ne (by omega), upd_same]; rfl
        · rw [upd_same]
        · rw [pfx _ (by omega) (by omega) (by omega) (by omega), e7, upd_same]; rfl
      · rw [if_neg el] at qF
        rw [ups_ne el, ups_ne ek] at qU
        have hqi := hZ.fq hi
        have m1 : zF z i ≠ A := fun e => ek (hZ.finj hi hk (by rw [e, hA]))
        have m2 : zF z i ≠ B := fun e => el (hZ.finj hi hl (by rw [e, hB]))
        have m3 : zF z i ≠ C := fun e => hZ.fno hi hk (by rw [e, g1])
        have qz : lz (layW (layW (fl1 z k l) k) l) i = lz z i := by
          have : al (layW (layW (fl1 z k l) k) l) i = al z i := by
            show decide (zO (fl1 z k l) i = zF (fl1 z k l) i + 1) = _
            rw [fl1_F, fl1_O, if_neg el, if_neg ek]; rfl
          unfold lz; rw [this]
        rw [qF, qU, qz]
        refine ⟨?_, ?_, ?_, ?_⟩
        · rw [pfx _ (by omega) (by omega) (by omega) (by omega), p7 _ (by omega) (by omega) (by omega) (by omega) (by omega) (by omega) (by omega)]; exact hI.L hi
        · rw [pfx _ (by omega) (by omega) (by omega) (by omega), p7 _ (by omega) (by omega) (by omega) (by omega) (by omega) (by omega) (by omega)]; exact hI.T hi
        · rw [pfx _ (by omega) (by omega) (by omega) (by omega), p7 _ (by omega) (by omega) (by omega) (by omega) (by omega) (by omega) (by omega)]; exact hI.U hi
        · rw [pfx _ (by omega) (by omega) (by omega) (by omega), p7 _ (by omega) (by omega) (by omega) (by omega) (by omega) (by omega) (by omega)]; exact hI.H hi
  · have hs : s < zq z := hs
    have hn : ∀ i, i < zt z → zF (fl1 z k l) i ≠ s := hn
    have c1 := hn k hk
    have c2 := hn l hl
    rw [fl1_F, if_neg (Ne.symm g4), hA] at c1
    rw [fl1_F, if_pos rfl, hC] at c2
    rw [pfx _ (by omega) (by omega) (by omega) (by omega)]
    by_cases e : s = B
    · subst e
      rw [e7, upd_ne (by omega), upd_ne (by omega), upd_ne (by omega), upd_ne (by omega), upd_ne (by omega), upd_ne (by omega), upd_same]
    · rw [p7 _ (by omega) (by omega) (by omega) (by omega) (by omega) (by omega) (by omega)]
      refine hI.Z hs (fun i hi ei => ?_)
      by_cases q1 : i = l
      · rw [q1, hB] at ei; exact e ei.symm
      · have := hn i hi
        rw [fl1_F, if_neg q1] at this
        exact this ei
set_option maxRecDepth 20000 in
set_option maxHeartbeats 1600000 in
theorem s8_flipOn (hI : InvR f z) (hZ : ZOK z) {k l : Nat} (hk : k < zt z) (hp : part z k = some l) : SpecP mX8_flipOn 7 0 0 [.ref a, .int (nI (zF z k))] (rset M a f) (tR (some (.int (iI (fgZ z k l)))) M a (flipZ z k l)) := by
  have hd := hZ.dims
  have hl := part_lt hZ hp
  have hqk := hZ.fq hk
  have hql := hZ.fq hl
  have hok := hZ.oq hk
  have hol := hZ.oq hl
  have fk := hZ.fo hk
  have hlp := lz_pos z k
  obtain ⟨g1, g2, g3, g4⟩ := part_geo hZ hk hp
  have htk := hZ.t hk
  have htl := hZ.t hl
  have n2 := hZ.fno hl hk
  have n3 : zF z k ≠ zF z l := fun e => g4 (hZ.finj hl hk e.symm)
  refine Spec_of [some (.ref a), some (.int (nI (zF z k))), none, none, none, none, none, none, none] (by decide) (Nat.le_of_ble_eq_true rfl) rfl ?_
  have fin :
    G mX8_flipOn 7 (.inl false) 0 0 (tR (some (.int (iI (fgZ z k l)))) M a (flipZ z k l)) none 0 0 39 [some (.ref a), some (.int (nI (zF z k))), some (.int (iI (fgZ z k l))), some (.int (nI (zc z))), some (.int (nI (zF z l))), some (.int (nI (fst2 z k))), none, none, none] [] (rset M a f)
    := by
    refine n_iconst_3 (pc := 39) dX8_flipOn_39 ?_
    refine r_aload0 (pc := 40) dX8_flipOn_40 ?_
    refine n_bipush (pc := 41) 115 (by decide) dX8_flipOn_41 ?_
    refine r_iload1 (pc := 43) dX8_flipOn_43 ?_
    first | refine n_iadd (pc := 44) dX8_flipOn_44 ?_ | refine z_iadd (pc := 44) dX8_flipOn_44 ?_ | refine r_iadd (pc := 44) dX8_flipOn_44 ?_
    refine n_iald (pc := 45) dX8_flipOn_45 mset_same (by omega) (by decide) (hI.L hk) ?_
    refine n_isub (pc := 46) dX8_flipOn_46 (by omega) ?_
    refine r_istore6 (pc := 47) dX8_flipOn_47 rfl ?_
    refine r_aload0 (pc := 49) dX8_flipOn_49 ?_
    refine n_sipush (pc := 50) 227 (by decide) dX8_flipOn_50 ?_
    refine r_iload4 (pc := 53) dX8_flipOn_53 ?_
    first | refine n_iadd (pc := 55) dX8_flipOn_55 ?_ | refine z_iadd (pc := 55) dX8_flipOn_55 ?_ | refine r_iadd (pc := 55) dX8_flipOn_55 ?_
    refine n_iald (pc := 56) dX8_flipOn_56 mset_same (by omega) (by decide) (hI.T hl) ?_
    refine r_istore7 (pc := 57) dX8_flipOn_57 rfl ?_
    refine r_aload0 (pc := 59) dX8_flipOn_59 ?_
    refine n_sipush (pc := 60) 451 (by decide) dX8_flipOn_60 ?_
    refine r_iload4 (pc := 63) dX8_flipOn_63 ?_
    first | refine n_iadd (pc := 65) dX8_flipOn_65 ?_ | refine z_iadd (pc := 65) dX8_flipOn_65 ?_ | refine r_iadd (pc := 65) dX8_flipOn_65 ?_
    refine n_iald (pc := 66) dX8_flipOn_66 mset_same (by omega) (by decide) (hI.H hl) ?_
    refine r_istore8 (pc := 67) dX8_flipOn_67 rfl ?_
    refine r_aload0 (pc := 69) dX8_flipOn_69 ?_
    refine n_bipush (pc := 70) 115 (by decide) dX8_flipOn_70 ?_
    refine r_iload4 (pc := 72) dX8_flipOn_72 ?_
    first | refine n_iadd (pc := 74) dX8_flipOn_74 ?_ | refine z_iadd (pc := 74) dX8_flipOn_74 ?_ | refine r_iadd (pc := 74) dX8_flipOn_74 ?_
    refine n_iconst_0 (pc := 75) dX8_flipOn_75 ?_
    refine n_iast (pc := 76) dX8_flipOn_76 mset_same (by omega) (by decide) ?_
    refine G_M mset_mset ?_
    refine r_aload0 (pc := 77) dX8_flipOn_77 ?_
    refine n_sipush (pc := 78) 227 (by decide) dX8_flipOn_78 ?_
    refine r_iload4 (pc := 81) dX8_flipOn_81 ?_
    first | refine n_iadd (pc := 83) dX8_flipOn_83 ?_ | refine z_iadd (pc := 83) dX8_flipOn_83 ?_ | refine r_iadd (pc := 83) dX8_flipOn_83 ?_
    refine n_iconst_0 (pc := 84) dX8_flipOn_84 ?_
    refine n_iast (pc := 85) dX8_flipOn_85 mset_same (by omega) (by decide) ?_
    refine G_M mset_mset ?_
    refine r_aload0 (pc := 86) dX8_flipOn_86 ?_
    refine n_sipush (pc := 87) 339 (by decide) dX8_flipOn_87 ?_
    refine r_iload4 (pc := 90) dX8_flipOn_90 ?_
    first | refine n_iadd (pc := 92) dX8_flipOn_92 ?_ | refine z_iadd (pc := 92) dX8_flipOn_92 ?_ | refine r_iadd (pc := 92) dX8_flipOn_92 ?_
    refine n_iconst_0 (pc := 93) dX8_flipOn_93 ?_
    refine n_iast (pc := 94) dX8_flipOn_94 mset_same (by omega) (by decide) ?_
    refine G_M mset_mset ?_
    refine r_aload0 (pc := 95) dX8_flipOn_95 ?_
    refine n_sipush (pc := 96) 451 (by decide) dX8_flipOn_96 ?_
    refine r_iload4 (pc := 99) dX8_flipOn_99 ?_
    first | refine n_iadd (pc := 101) dX8_flipOn_101 ?_ | refine z_iadd (pc := 101) dX8_flipOn_101 ?_ | refine r_iadd (pc := 101) dX8_flipOn_101 ?_
    refine n_iconst_0 (pc := 102) dX8_flipOn_102 ?_
    refine n_iast (pc := 103) dX8_flipOn_103 mset_same (by omega) (by decide) ?_
    refine G_M mset_mset ?_
    refine r_aload0 (pc := 104) dX8_flipOn_104 ?_
    refine n_bipush (pc := 105) 115 (by decide) dX8_flipOn_105 ?_
    refine r_iload1 (pc := 107) dX8_flipOn_107 ?_
    first | refine n_iadd (pc := 108) dX8_flipOn_108 ?_ | refine z_iadd (pc := 108) dX8_flipOn_108 ?_ | refine r_iadd (pc := 108) dX8_flipOn_108 ?_
    refine r_iload6 (pc := 109) dX8_flipOn_109 ?_
    refine n_iast (pc := 111) dX8_flipOn_111 mset_same (by omega) (by decide) ?_
    refine G_M mset_mset ?_
    refine r_aload0 (pc := 112) dX8_flipOn_112 ?_
    refine n_bipush (pc := 113) 115 (by decide) dX8_flipOn_113 ?_
    refine r_iload5 (pc := 115) dX8_flipOn_115 ?_
    first | refine n_iadd (pc := 117) dX8_flipOn_117 ?_ | refine z_iadd (pc := 117) dX8_flipOn_117 ?_ | refine r_iadd (pc := 117) dX8_flipOn_117 ?_
    refine r_iload6 (pc := 118) dX8_flipOn_118 ?_
    refine n_iast (pc := 120) dX8_flipOn_120 mset_same (by omega) (by decide) ?_
    refine G_M mset_mset ?_
    refine r_aload0 (pc := 121) dX8_flipOn_121 ?_
    refine n_sipush (pc := 122) 451 (by decide) dX8_flipOn_122 ?_
    refine r_iload5 (pc := 125) dX8_flipOn_125 ?_
    first | refine n_iadd (pc := 127) dX8_flipOn_127 ?_ | refine z_iadd (pc := 127) dX8_flipOn_127 ?_ | refine r_iadd (pc := 127) dX8_flipOn_127 ?_
    refine r_iload8 (pc := 128) dX8_flipOn_128 ?_
    refine n_iast (pc := 130) dX8_flipOn_130 mset_same (by omega) (by decide) ?_
    refine G_M mset_mset ?_
    generalize e7 : upd (upd (upd (upd (upd (upd (upd f (115 + zF z l) (nI 0)) (227 + zF z l) (nI 0)) (339 + zF z l) (nI 0)) (451 + zF z l) (nI 0)) (115 + zF z k) (nI (3 - lz z k))) (115 + fst2 z k) (nI (3 - lz z k))) (451 + fst2 z k) (nI (zH z l)) = f7
    have hG7 : InvG f7 z := by
      rw [← e7]
      exact ((((((hI.toG.upd hZ (by omega)).upd hZ (by omega)).upd hZ (by omega)).upd hZ (by omega)).upd hZ (by omega)).upd hZ (by omega)).upd hZ (by omega)
    have hT7 : f7 (227 + zF z k) = nI (zT z k) := by
      rw [← e7, upd_ne (by omega), upd_ne (by omega), upd_ne (by omega), upd_ne (by omega), upd_ne (by omega), upd_ne (by omega), upd_ne (by omega)]
      exact hI.T hk
    have hLk : f7 (115 + zF z k) = nI (3 - lz z k) := by
      rw [← e7, upd_ne (by omega), upd_ne (by omega), upd_same]
    have hLc : f7 (115 + fst2 z k) = nI (3 - lz z k) := by
      rw [← e7, upd_ne (by omega), upd_same]
    have hst : (3 - lz z k = 1 ∧ stp z k = 1) ∨ (3 - lz z k = 2 ∧ stp z k = zc z) := by
      rcases al_iff hZ hk with ⟨a1, a2, a3, a4⟩ | ⟨a1, a2, a4⟩
      · exact Or.inr ⟨by omega, by unfold stp; rw [a1]; rfl⟩
      · exact Or.inl ⟨by omega, by unfold stp; rw [a1]; rfl⟩
    refine r_aload0 (pc := 131) dX8_flipOn_131 ?_
    refine r_iload1 (pc := 132) dX8_flipOn_132 ?_
    refine r_aload0 (pc := 133) dX8_flipOn_133 ?_
    refine n_sipush (pc := 134) 227 (by decide) dX8_flipOn_134 ?_
    refine r_iload1 (pc := 137) dX8_flipOn_137 ?_
    first | refine n_iadd (pc := 138) dX8_flipOn_138 ?_ | refine z_iadd (pc := 138) dX8_flipOn_138 ?_ | refine r_iadd (pc := 138) dX8_flipOn_138 ?_
    refine n_iald (pc := 139) dX8_flipOn_139 mset_same (by omega) (by decide) hT7 ?_
    refine r_callS3v (pc := 140) lk_X8_100 dX8_flipOn_140 (g8_layTile hG7 hZ hqk (o := zF z k + stp z k) (by omega) htk (by rcases hst with ⟨q1, q2⟩ | ⟨q1, q2⟩; exact Or.inl ⟨by rw [hLk, q1], by rw [q2]⟩; exact Or.inr ⟨by rw [hLk, q1], by rw [q2]⟩)) (by decide) (Nat.le_of_ble_eq_true rfl) ⟨Nat.zero_le _, Nat.zero_le _⟩ ?_
    have hG8 := (hG7.upd hZ (i := 227 + zF z k) (v := nI (zT z k)) (by omega)).upd hZ (i := 339 + zF z k) (v := nI (bet z (zF z k) (zF z k + stp z k) (zT z k))) (by omega)
    have hLc8 : (upd (upd f7 (227 + zF z k) (nI (zT z k))) (339 + zF z k) (nI (bet z (zF z k) (zF z k + stp z k) (zT z k)))) (115 + fst2 z k) = nI (3 - lz z k) := by
      rw [upd_ne (by omega), upd_ne (by omega)]; exact hLc
    refine r_aload0 (pc := 143) dX8_flipOn_143 ?_
    refine r_iload5 (pc := 144) dX8_flipOn_144 ?_
    refine r_iload7 (pc := 146) dX8_flipOn_146 ?_
    refine r_callS3v (pc := 148) lk_X8_100 dX8_flipOn_148 (g8_layTile hG8 hZ (s := fst2 z k) (o := fst2 z k + stp z k) (by omega) (by omega) (t := zT z l) htl (by rcases hst with ⟨q1, q2⟩ | ⟨q1, q2⟩; exact Or.inl ⟨by rw [hLc8, q1], by rw [q2]⟩; exact Or.inr ⟨by rw [hLc8, q1], by rw [q2]⟩)) (by decide) (Nat.le_of_ble_eq_true rfl) ⟨Nat.zero_le _, Nat.zero_le _⟩ ?_
    have h9 := flip_row hI hZ hk hp (lv := 3 - lz z k) rfl e7.symm rfl
    refine r_aload0 (pc := 151) dX8_flipOn_151 ?_
    refine n_iconst_2 (pc := 152) dX8_flipOn_152 ?_
    refine r_dup2 (pc := 153) dX8_flipOn_153 rfl rfl ?_
    refine n_iald (pc := 154) dX8_flipOn_154 mset_same (by omega) (by decide) rfl ?_
    refine n_iconst_1 (pc := 155) dX8_flipOn_155 ?_
    first | refine n_iadd (pc := 156) dX8_flipOn_156 ?_ | refine z_iadd (pc := 156) dX8_flipOn_156 ?_ | refine r_iadd (pc := 156) dX8_flipOn_156 ?_
    refine n_iast (pc := 157) dX8_flipOn_157 mset_same (by omega) (by decide) ?_
    refine G_M mset_mset ?_
    refine r_iload2 (pc := 158) dX8_flipOn_158 ?_
    obtain ⟨r, hr, -⟩ := flipZ_ren hZ hk hp
    exact p_ireturn (pc := 159) false rfl rfl rfl dX8_flipOn_159 (Nat.zero_le _) (Nat.zero_le _) (Or.inl rfl) ⟨rfl, _, InvR.chg (h9.ren hr), rfl⟩
  refine r_aload0 (pc := 0) dX8_flipOn_0 ?_
  refine r_iload1 (pc := 1) dX8_flipOn_1 ?_
  refine r_callS2i (pc := 2) lk_X8_103 dX8_flipOn_2 (s8_gainOfFlip mset_same hI hZ hk hp) (by decide) (Nat.le_of_ble_eq_true rfl) ⟨Nat.zero_le _, Nat.zero_le _⟩ ?_
  refine r_istore2 (pc := 5) dX8_flipOn_5 rfl ?_
  refine r_aload0 (pc := 6) dX8_flipOn_6 ?_
  refine r_callS1i (pc := 7) lk_X8_40 dX8_flipOn_7 (s8_wide mset_same hI) (by decide) (Nat.le_of_ble_eq_true rfl) ⟨Nat.zero_le _, Nat.zero_le _⟩ ?_
  refine r_istore3 (pc := 10) dX8_flipOn_10 rfl ?_
  refine r_aload0 (pc := 11) dX8_flipOn_11 ?_
  refine r_iload1 (pc := 12) dX8_flipOn_12 ?_
  refine r_callS2i (pc := 13) lk_X8_91 dX8_flipOn_13 (s8_partnerS mset_same hI hZ hk hp) (by decide) (Nat.le_of_ble_eq_true rfl) ⟨Nat.zero_le _, Nat.zero_le _⟩ ?_
  refine r_istore4 (pc := 16) dX8_flipOn_16 rfl ?_
  refine r_aload0 (pc := 18) dX8_flipOn_18 ?_
  refine n_bipush (pc := 19) 115 (by decide) dX8_flipOn_19 ?_
  refine r_iload1 (pc := 21) dX8_flipOn_21 ?_
  first | refine n_iadd (pc := 22) dX8_flipOn_22 ?_ | refine z_iadd (pc := 22) dX8_flipOn_22 ?_ | refine r_iadd (pc := 22) dX8_flipOn_22 ?_
  refine n_iald (pc := 23) dX8_flipOn_23 mset_same (by omega) (by decide) (hI.L hk) ?_
  refine n_iconst_1 (pc := 24) dX8_flipOn_24 ?_
  rcases al_iff hZ hk with ⟨a1, a2, a3, a4⟩ | ⟨a1, a2, a4⟩
  · have f1 : fst2 z k = zF z k + 1 := by unfold fst2; rw [a1]; rfl
    rw [a4]
    refine n_icmp_ne (pc := 25) 34 (by decide) dX8_flipOn_25 (by omega) (by omega) (fun hc25 => absurd hc25 (by omega)) (fun hc25 => ?_)
    refine r_iload1 (pc := 28) dX8_flipOn_28 ?_
    refine n_iconst_1 (pc := 29) dX8_flipOn_29 ?_
    first | refine n_iadd (pc := 30) dX8_flipOn_30 ?_ | refine z_iadd (pc := 30) dX8_flipOn_30 ?_ | refine r_iadd (pc := 30) dX8_flipOn_30 ?_
    refine r_goto (pc := 31) 37 (by decide) dX8_flipOn_31 ?_
    refine r_istore5 (pc := 37) dX8_flipOn_37 rfl ?_
    rw [f1] at fin
    exact fin
  · have f1 : fst2 z k = zF z k + zc z := by unfold fst2; rw [a1]; rfl
    rw [a4]
    refine n_icmp_ne (pc := 25) 34 (by decide) dX8_flipOn_25 (by omega) (by omega) (fun hc25 => ?_) (fun hc25 => absurd hc25 (by omega))
    refine r_iload1 (pc := 34) dX8_flipOn_34 ?_
    refine r_iload3 (pc := 35) dX8_flipOn_35 ?_
    first | refine n_iadd (pc := 36) dX8_flipOn_36 ?_ | refine z_iadd (pc := 36) dX8_flipOn_36 ?_ | refine r_iadd (pc := 36) dX8_flipOn_36 ?_
    refine r_istore5 (pc := 37) dX8_flipOn_37 rfl ?_
    rw [f1] at fin
    exact fin
theorem canF_no {z : ZS} {s : Nat} (h : ∀ k, k < zt z → zF z k ≠ s) : canF z s = none := by
  unfold canF
  rw [blk_no (fun k hk e => absurd e (h k hk))]
theorem canF_none {z : ZS} (h : ZOK z) {k : Nat} (hk : k < zt z) (hp : part z k = none) : canF z (zF z k) = none := by
  unfold canF
  rw [find_eqF h hk rfl, hp]; rfl
theorem canF_some {z : ZS} (h : ZOK z) {k l : Nat} (hk : k < zt z) (hp : part z k = some l) : canF z (zF z k) = if zH z k = 0 ∧ zH z l = 0 then some (k, l) else none := by
  unfold canF
  rw [find_eqF h hk rfl, hp]
  show (match part z k with | none => none | some l => if zH z k = 0 ∧ zH z l = 0 then some (k, l) else none) = _
  rw [hp]
set_option maxRecDepth 20000 in
theorem s8_isFlip (hM : M a = some (cI 563 f)) (hI : InvR f z) (hZ : ZOK z) {s : Nat} (hs : s < zq z) : Spec mX8_isFlip 3 0 0 [.ref a, .int (nI s)] M (some (.int (bI (canF z s).isSome))) M := by
  have hd := hZ.dims
  refine Spec_of [some (.ref a), some (.int (nI s))] (by decide) (Nat.le_of_ble_eq_true rfl) rfl ?_
  refine r_aload0 (pc := 0) dX8_isFlip_0 ?_
  refine r_iload1 (pc := 1) dX8_isFlip_1 ?_
  refine r_callS2i (pc := 2) lk_X8_91 dX8_isFlip_2 (s8_partner hM hI hZ hs) (by decide) (Nat.le_of_ble_eq_true rfl) ⟨Nat.zero_le _, Nat.zero_le _⟩ ?_
  refine r_iconst_m1 (pc := 5) dX8_isFlip_5 ?_
  rcases sq_cases hZ s with ⟨k, hk, ek, -, -⟩ | ⟨hn, -⟩
  · subst ek
    cases hp : part z k with
    | none =>
      rw [prS_none hZ hk hp, canF_none hZ hk hp]
      refine r_icmp_eq (pc := 6) 35 (by decide) dX8_isFlip_6 (fun _ => ?_) (fun h9 => absurd rfl h9)
      refine n_iconst_0 (pc := 35) dX8_isFlip_35 ?_
      exact r_ireturn (pc := 36) false rfl rfl (by decide) dX8_isFlip_36 (Nat.zero_le _) (Nat.zero_le _) (Or.inl rfl) rfl rfl rfl
    | some l =>
      have hl := part_lt hZ hp
      have hql := hZ.fq hl
      have hhk := hZ.h hk
      have hhl := hZ.h hl
      rw [prS_some hZ hk hp, canF_some hZ hk hp]
      refine r_icmp_eq (pc := 6) 35 (by decide) dX8_isFlip_6 (fun h9 => absurd h9 (nI_ne_m1 (by omega))) (fun _ => ?_)
      refine r_aload0 (pc := 9) dX8_isFlip_9 ?_
      refine n_sipush (pc := 10) 451 (by decide) dX8_isFlip_10 ?_
      refine r_iload1 (pc := 13) dX8_isFlip_13 ?_
      first | refine n_iadd (pc := 14) dX8_isFlip_14 ?_ | refine z_iadd (pc := 14) dX8_isFlip_14 ?_ | refine r_iadd (pc := 14) dX8_isFlip_14 ?_
      refine n_iald (pc := 15) dX8_isFlip_15 hM (by omega) (by decide) (hI.H hk) ?_
      refine r_aload0 (pc := 16) dX8_isFlip_16 ?_
      refine n_sipush (pc := 17) 451 (by decide) dX8_isFlip_17 ?_
      refine r_aload0 (pc := 20) dX8_isFlip_20 ?_
      refine r_iload1 (pc := 21) dX8_isFlip_21 ?_
      refine r_callS2i (pc := 22) lk_X8_91 dX8_isFlip_22 (s8_partnerS hM hI hZ hk hp) (by decide) (Nat.le_of_ble_eq_true rfl) ⟨Nat.zero_le _, Nat.zero_le _⟩ ?_
      first | refine n_iadd (pc := 25) dX8_isFlip_25 ?_ | refine z_iadd (pc := 25) dX8_isFlip_25 ?_ | refine r_iadd (pc := 25) dX8_isFlip_25 ?_
      refine n_iald (pc := 26) dX8_isFlip_26 hM (by omega) (by decide) (hI.H hl) ?_
      first | refine n_iadd (pc := 27) dX8_isFlip_27 ?_ | refine z_iadd (pc := 27) dX8_isFlip_27 ?_ | refine r_iadd (pc := 27) dX8_isFlip_27 ?_
      refine n_if_ne (pc := 28) 35 (by decide) dX8_isFlip_28 (by omega) (fun h9 => ?_) (fun h9 => ?_)
      · refine n_iconst_0 (pc := 35) dX8_isFlip_35 ?_
        exact r_ireturn (pc := 36) false rfl rfl (by decide) dX8_isFlip_36 (Nat.zero_le _) (Nat.zero_le _) (Or.inl rfl) rfl (by rw [if_neg (by omega)]; rfl) rfl
      · refine n_iconst_1 (pc := 31) dX8_isFlip_31 ?_
        refine r_goto (pc := 32) 36 (by decide) dX8_isFlip_32 ?_
        exact r_ireturn (pc := 36) false rfl rfl (by decide) dX8_isFlip_36 (Nat.zero_le _) (Nat.zero_le _) (Or.inl rfl) rfl (by rw [if_pos (by omega)]; rfl) rfl
  · rw [prS_no hn, canF_no hn]
    refine r_icmp_eq (pc := 6) 35 (by decide) dX8_isFlip_6 (fun _ => ?_) (fun h9 => absurd rfl h9)
    refine n_iconst_0 (pc := 35) dX8_isFlip_35 ?_
    exact r_ireturn (pc := 36) false rfl rfl (by decide) dX8_isFlip_36 (Nat.zero_le _) (Nat.zero_le _) (Or.inl rfl) rfl rfl rfl
end RSWAP

theorem naZ_ow {z : ZS} (h : ZOW z) {l : Nat} (hl : l < zt z) (h2 : ZOK (naZ z l)) : ZOW (naZ z l) := ⟨h2.1, h2.2.1, fun k hk => ⟨by have := h2.fo hk; omega, by have := h2.fo hk; omega⟩, fun k hk => h2.t hk⟩
theorem fl1_ow {z : ZS} (h : ZOK z) {k l : Nat} (hk : k < zt z) (hp : part z k = some l) : ZOW (fl1 z k l) := by
  obtain ⟨f1, -⟩ := fl1_facts h hk hp
  exact ⟨h.1, h.2.1, fun i hi => ⟨by have h1 := f1 i hi; exact Nat.lt_trans h1.1 h1.2.1, (f1 i hi).2.1⟩, fun i hi => h.t hi⟩
section FLIPW
variable {M : Mem} {b : Nat} {S : BS} {z : ZS}
theorem s_partnerS (hI : InvB S z) (hZ : ZOK z) {k l : Nat} (hk : k < zt z) (hp : part z k = some l) : Spec mX0_partner 3 0 0 [.ref b, .int (nI k)] (bset M b S) (some (.int (nI l))) (bset M b S) := by
  have h := s_partner (M := M) (b := b) hI hZ hk
  rw [hp] at h
  exact h
set_option maxRecDepth 20000 in
theorem s_flipBlock (hI : InvB S z) (hZ : ZOK z) {k l : Nat} (hk : k < zt z) (hp : part z k = some l) : SpecP mX0_flipBlock 4 0 0 [.ref b, .int (nI k)] (bset M b S) (tB none M b (flipZ z k l)) := by
  have hd := hZ.dims
  have hl := part_lt hZ hp
  have hg := part_geo hZ hk hp
  have hf := hZ.fo hk
  have hfl := hZ.fo hl
  have hc0 := hI.c0
  refine Spec_of [some (.ref b), some (.int (nI k)), none, none, none, none, none] (by decide) (Nat.le_of_ble_eq_true rfl) rfl ?_
  have fin :
    G mX0_flipBlock 4 (.inl false) 0 0 (tB none M b (flipZ z k l)) none 0 0 56 [some (.ref b), some (.int (nI k)), some (.int (nI l)), some (.int (bI (al z k))), some (.int (nI (zF z k))), some (.int (nI (fst2 z k))), some (.int (nI (stp z k)))] [] (bset M b S)
    := by
    refine r_aload0 (pc := 56) dX0_flipBlock_56 ?_
    refine r_getf (pc := 57) fl_X0_12 dX0_flipBlock_57 (bget0 rfl) rfl ?_
    refine r_getf (pc := 60) fl_X0_112 dX0_flipBlock_60 (bget rfl) rfl ?_
    refine r_iload1 (pc := 63) dX0_flipBlock_63 ?_
    refine r_iload4 (pc := 64) dX0_flipBlock_64 ?_
    refine r_iload6 (pc := 66) dX0_flipBlock_66 ?_
    first | refine n_iadd (pc := 68) dX0_flipBlock_68 ?_ | refine z_iadd (pc := 68) dX0_flipBlock_68 ?_ | refine r_iadd (pc := 68) dX0_flipBlock_68 ?_
    refine r_callN3v (pc := 69) lk_X0_85 dX0_flipBlock_69 (s_putB (j := 4) (by decide) rfl (fun _ => rfl) (by omega) (by decide)) (by decide) (Nat.le_of_ble_eq_true rfl) ⟨Nat.zero_le _, Nat.zero_le _⟩ ?_
    refine r_aload0 (pc := 72) dX0_flipBlock_72 ?_
    refine r_getf (pc := 73) fl_X0_12 dX0_flipBlock_73 (bget0 rfl) rfl ?_
    refine r_getf (pc := 76) fl_X0_109 dX0_flipBlock_76 (bget rfl) rfl ?_
    refine r_iload2 (pc := 79) dX0_flipBlock_79 ?_
    refine r_iload5 (pc := 80) dX0_flipBlock_80 ?_
    refine r_callN3v (pc := 82) lk_X0_85 dX0_flipBlock_82 (s_putB (j := 3) (by decide) rfl (fun _ => rfl) (by omega) (by decide)) (by decide) (Nat.le_of_ble_eq_true rfl) ⟨Nat.zero_le _, Nat.zero_le _⟩ ?_
    have hW : InvW (ia (ia S 4 (upd (S.2 4) k (nI (zF z k + stp z k)))) 3 (upd (S.2 3) l (nI (fst2 z k)))) (fl1 z k l) := (hI.toW.setO (upd_ups (fun _ h => hI.O h) rfl)).setF (upd_ups (fun _ h => hI.F h) rfl)
    have hO := fl1_ow hZ hk hp
    refine r_aload0 (pc := 85) dX0_flipBlock_85 ?_
    refine r_iload1 (pc := 86) dX0_flipBlock_86 ?_
    refine r_callV1w (pc := 87) lk_X0_177 dX0_flipBlock_87 (bget0 rfl) (s_layBetterWayW hW hO (k := k) hk)  (by decide) (Nat.le_of_ble_eq_true rfl) ⟨Nat.zero_le _, Nat.zero_le _⟩ (fun M9 h9 => ?_)
    obtain ⟨S2, hW2, rfl⟩ := h9
    refine r_aload0 (pc := 90) dX0_flipBlock_90 ?_
    refine r_iload2 (pc := 91) dX0_flipBlock_91 ?_
    refine r_callV1w (pc := 92) lk_X0_177 dX0_flipBlock_92 (bget0 rfl) (s_layBetterWayW hW2 (layW_ow hO k) (k := l) hl)  (by decide) (Nat.le_of_ble_eq_true rfl) ⟨Nat.zero_le _, Nat.zero_le _⟩ (fun M9 h9 => ?_)
    obtain ⟨S3, hW3, rfl⟩ := h9
    refine r_aload0 (pc := 95) dX0_flipBlock_95 ?_
    refine r_iload2 (pc := 96) dX0_flipBlock_96 ?_
    refine r_callV1w (pc := 97) lk_X0_187 dX0_flipBlock_97 (bget0 rfl) (s_numberAnew hW3 (layW_ow (layW_ow hO k) l) (l := l) hl)  (by decide) (Nat.le_of_ble_eq_true rfl) ⟨Nat.zero_le _, Nat.zero_le _⟩ (fun M9 h9 => ?_)
    obtain ⟨S4, hW4, rfl⟩ := h9
    refine r_aload0 (pc := 100) dX0_flipBlock_100 ?_
    refine r_callV0w (pc := 101) lk_X0_89 dX0_flipBlock_101 (bget0 rfl) (s_markPlaces hW4 (flipZ_ok hZ hk hp))  (by decide) (Nat.le_of_ble_eq_true rfl) ⟨Nat.zero_le _, Nat.zero_le _⟩ (fun M9 h9 => ?_)
    obtain ⟨S5, hW5, rfl⟩ := h9
    refine r_aload0 (pc := 104) dX0_flipBlock_104 ?_
    refine r_getf (pc := 105) fl_X0_12 dX0_flipBlock_105 (bget0 rfl) rfl ?_
    refine r_dup (pc := 108) dX0_flipBlock_108 rfl ?_
    refine r_getf (pc := 109) fl_X0_54 dX0_flipBlock_109 (bget rfl) rfl ?_
    refine n_iconst_1 (pc := 112) dX0_flipBlock_112 ?_
    first | refine n_iadd (pc := 113) dX0_flipBlock_113 ?_ | refine z_iadd (pc := 113) dX0_flipBlock_113 ?_ | refine r_iadd (pc := 113) dX0_flipBlock_113 ?_
    refine r_putfI (pc := 114) fl_X0_54 dX0_flipBlock_114 (bget rfl) (Nat.le_of_ble_eq_true rfl) ?_
    refine G_M bii_X5_2 ?_
    exact p_return (pc := 117) false rfl rfl dX0_flipBlock_117 (Nat.zero_le _) (Nat.zero_le _) (Or.inl rfl) ⟨rfl, _, hW5.chg, rfl⟩
  refine r_aload0 (pc := 0) dX0_flipBlock_0 ?_
  refine r_iload1 (pc := 1) dX0_flipBlock_1 ?_
  refine r_callV1i (pc := 2) lk_X0_184 dX0_flipBlock_2 (bget0 rfl) (s_partnerS hI hZ hk hp) (by decide) (Nat.le_of_ble_eq_true rfl) ⟨Nat.zero_le _, Nat.zero_le _⟩ ?_
  refine r_istore2 (pc := 5) dX0_flipBlock_5 rfl ?_
  refine r_aload0 (pc := 6) dX0_flipBlock_6 ?_
  refine r_iload1 (pc := 7) dX0_flipBlock_7 ?_
  refine r_callV1i (pc := 8) lk_X0_119 dX0_flipBlock_8 (bget0 rfl) (s_isAlongRow hI hZ hk) (by decide) (Nat.le_of_ble_eq_true rfl) ⟨Nat.zero_le _, Nat.zero_le _⟩ ?_
  refine r_istore3 (pc := 11) dX0_flipBlock_11 rfl ?_
  refine r_aload0 (pc := 12) dX0_flipBlock_12 ?_
  refine r_getf (pc := 13) fl_X0_12 dX0_flipBlock_13 (bget0 rfl) rfl ?_
  refine r_getf (pc := 16) fl_X0_109 dX0_flipBlock_16 (bget rfl) rfl ?_
  refine r_iload1 (pc := 19) dX0_flipBlock_19 ?_
  refine r_callN2i (pc := 20) lk_X0_115 dX0_flipBlock_20 (s_at (bget rfl) (by omega) (by decide) (hI.F hk)) (by decide) (Nat.le_of_ble_eq_true rfl) ⟨Nat.zero_le _, Nat.zero_le _⟩ ?_
  refine r_istore4 (pc := 23) dX0_flipBlock_23 rfl ?_
  refine r_iload4 (pc := 25) dX0_flipBlock_25 ?_
  refine r_iload3 (pc := 27) dX0_flipBlock_27 ?_
  refine b_if_eq (pc := 28) 35 (by decide) dX0_flipBlock_28 (fun h9 => ?_) (fun h9 => ?_)
  · refine r_aload0 (pc := 35) dX0_flipBlock_35 ?_
    refine r_getf (pc := 36) fl_X0_96 dX0_flipBlock_36 (bget0 rfl) rfl ?_
    rw [hc0]
    first | refine n_iadd (pc := 39) dX0_flipBlock_39 ?_ | refine z_iadd (pc := 39) dX0_flipBlock_39 ?_ | refine r_iadd (pc := 39) dX0_flipBlock_39 ?_
    refine r_istore5 (pc := 40) dX0_flipBlock_40 rfl ?_
    refine r_iload3 (pc := 42) dX0_flipBlock_42 ?_
    refine b_if_eq (pc := 43) 53 (by decide) dX0_flipBlock_43 (fun h8 => ?_) (fun h8 => absurd (h9.symm.trans h8) (by decide))
    have e1 : fst2 z k = zF z k + zc z := by unfold fst2; rw [h9]; rfl
    have e2 : stp z k = 1 := by unfold stp; rw [h9]; rfl
    rw [e1, e2] at fin
    refine n_iconst_1 (pc := 53) dX0_flipBlock_53 ?_
    refine r_istore6 (pc := 54) dX0_flipBlock_54 rfl ?_
    exact fin
  · refine n_iconst_1 (pc := 31) dX0_flipBlock_31 ?_
    refine r_goto (pc := 32) 39 (by decide) dX0_flipBlock_32 ?_
    first | refine n_iadd (pc := 39) dX0_flipBlock_39 ?_ | refine z_iadd (pc := 39) dX0_flipBlock_39 ?_ | refine r_iadd (pc := 39) dX0_flipBlock_39 ?_
    refine r_istore5 (pc := 40) dX0_flipBlock_40 rfl ?_
    refine r_iload3 (pc := 42) dX0_flipBlock_42 ?_
    refine b_if_eq (pc := 43) 53 (by decide) dX0_flipBlock_43 (fun h8 => absurd (h8.symm.trans h9) (by decide)) (fun h8 => ?_)
    have e1 : fst2 z k = zF z k + 1 := by unfold fst2; rw [h9]; rfl
    have e2 : stp z k = zc z := by unfold stp; rw [h9]; rfl
    rw [e1, e2] at fin
    refine r_aload0 (pc := 46) dX0_flipBlock_46 ?_
    refine r_getf (pc := 47) fl_X0_96 dX0_flipBlock_47 (bget0 rfl) rfl ?_
    rw [hc0]
    refine r_goto (pc := 50) 54 (by decide) dX0_flipBlock_50 ?_
    refine r_istore6 (pc := 54) dX0_flipBlock_54 rfl ?_
    exact fin
end FLIPW

section FIND
variable {M : Mem} {b : Nat} {S : BS} {z : ZS}
set_option maxRecDepth 20000 in
theorem s_offerSwapsOf {o : Option (Nat × Int)} (hI : InvB S z) (hZ : ZOK z) (hR : RS S z (zt z)) (hB : SB S o) (ho : okO o) {j : Nat} (hj : j < zt z) : SpecP mX3_offerSwapsOf 2 0 0 [.ref (b + 13), .int (nI j), .int (nI (zt z))] (bset M b S) (tP none (SQ M b z (swF z j o (zt z)))) := by
  have hd := hZ.dims
  obtain ⟨r0, r1, r2, r3, r4, r5⟩ := hR j hj
  have bj := hZ.erB hj
  have tj := hZ.hab (hZ.t hj)
  have gj := hZ.g (hZ.fq hj)
  have gj2 := hZ.g (hZ.oq hj)
  refine Spec_of [some (.ref (b + 13)), some (.int (nI j)), some (.int (nI (zt z))), none, none, none, none, none, none, none, none] (by decide) (Nat.le_of_ble_eq_true rfl) rfl ?_
  refine n_sipush (pc := 0) 10000 (by decide) dX3_offerSwapsOf_0 ?_
  refine n_bipush (pc := 3) 100 (by decide) dX3_offerSwapsOf_3 ?_
  refine r_iload1 (pc := 5) dX3_offerSwapsOf_5 ?_
  first | refine n_imul (pc := 6) dX3_offerSwapsOf_6 ?_ | refine z_imul (pc := 6) dX3_offerSwapsOf_6 ?_ | refine r_imul (pc := 6) dX3_offerSwapsOf_6 ?_
  first | refine n_iadd (pc := 7) dX3_offerSwapsOf_7 ?_ | refine z_iadd (pc := 7) dX3_offerSwapsOf_7 ?_ | refine r_iadd (pc := 7) dX3_offerSwapsOf_7 ?_
  refine r_istore3 (pc := 8) dX3_offerSwapsOf_8 rfl ?_
  refine r_aload0 (pc := 9) dX3_offerSwapsOf_9 ?_
  refine r_getf (pc := 10) fl_X3_15 dX3_offerSwapsOf_10 (bget rfl) rfl ?_
  refine r_iload1 (pc := 13) dX3_offerSwapsOf_13 ?_
  refine r_callN2i (pc := 14) lk_X3_73 dX3_offerSwapsOf_14 (s_at (bget rfl) (by omega) (by decide) r1) (by decide) (Nat.le_of_ble_eq_true rfl) ⟨Nat.zero_le _, Nat.zero_le _⟩ ?_
  refine r_istore4 (pc := 17) dX3_offerSwapsOf_17 rfl ?_
  refine r_aload0 (pc := 19) dX3_offerSwapsOf_19 ?_
  refine r_getf (pc := 20) fl_X3_18 dX3_offerSwapsOf_20 (bget rfl) rfl ?_
  refine r_iload1 (pc := 23) dX3_offerSwapsOf_23 ?_
  refine r_callN2i (pc := 24) lk_X3_73 dX3_offerSwapsOf_24 (s_at (bget rfl) (by omega) (by decide) r2) (by decide) (Nat.le_of_ble_eq_true rfl) ⟨Nat.zero_le _, Nat.zero_le _⟩ ?_
  refine r_istore5 (pc := 27) dX3_offerSwapsOf_27 rfl ?_
  refine r_aload0 (pc := 29) dX3_offerSwapsOf_29 ?_
  refine r_getf (pc := 30) fl_X3_21 dX3_offerSwapsOf_30 (bget rfl) rfl ?_
  refine r_iload1 (pc := 33) dX3_offerSwapsOf_33 ?_
  refine r_callN2i (pc := 34) lk_X3_73 dX3_offerSwapsOf_34 (s_at (bget rfl) (by omega) (by decide) r3) (by decide) (Nat.le_of_ble_eq_true rfl) ⟨Nat.zero_le _, Nat.zero_le _⟩ ?_
  refine r_istore6 (pc := 37) dX3_offerSwapsOf_37 rfl ?_
  refine r_aload0 (pc := 39) dX3_offerSwapsOf_39 ?_
  refine r_getf (pc := 40) fl_X3_24 dX3_offerSwapsOf_40 (bget rfl) rfl ?_
  refine r_iload1 (pc := 43) dX3_offerSwapsOf_43 ?_
  refine r_callN2i (pc := 44) lk_X3_73 dX3_offerSwapsOf_44 (s_at (bget rfl) (by omega) (by decide) r4) (by decide) (Nat.le_of_ble_eq_true rfl) ⟨Nat.zero_le _, Nat.zero_le _⟩ ?_
  refine r_istore7 (pc := 47) dX3_offerSwapsOf_47 rfl ?_
  refine r_aload0 (pc := 49) dX3_offerSwapsOf_49 ?_
  refine r_getf (pc := 50) fl_X3_27 dX3_offerSwapsOf_50 (bget rfl) rfl ?_
  refine r_iload1 (pc := 53) dX3_offerSwapsOf_53 ?_
  refine r_callN2i (pc := 54) lk_X3_73 dX3_offerSwapsOf_54 (s_at (bget rfl) (by omega) (by decide) r5) (by decide) (Nat.le_of_ble_eq_true rfl) ⟨Nat.zero_le _, Nat.zero_le _⟩ ?_
  refine r_istore8 (pc := 57) dX3_offerSwapsOf_57 rfl ?_
  refine r_iload1 (pc := 59) dX3_offerSwapsOf_59 ?_
  refine n_iconst_0 (pc := 60) dX3_offerSwapsOf_60 ?_
  refine r_mmax (pc := 61) rfl (by decide) (Nat.le_of_ble_eq_true rfl) ⟨Nat.zero_le _, Nat.zero_le _⟩ dX3_offerSwapsOf_61 ?_
  rw [show (if nI j < nI 0 then nI 0 else nI j) = nI j from if_neg (nI_pos (by omega))]
  refine n_iconst_1 (pc := 64) dX3_offerSwapsOf_64 ?_
  first | refine n_iadd (pc := 65) dX3_offerSwapsOf_65 ?_ | refine z_iadd (pc := 65) dX3_offerSwapsOf_65 ?_ | refine r_iadd (pc := 65) dX3_offerSwapsOf_65 ?_
  refine r_istore9 (pc := 66) dX3_offerSwapsOf_66 rfl ?_
  refine up_to (N := zt z) (k := j + 1) (fun i => ∀ S a10, InvB S z → RS S z (zt z) → SB S (swF z j o i) → j < i →
    G mX3_offerSwapsOf 2 (.inl false) 0 0 (tP none (SQ M b z (swF z j o (zt z)))) none 0 0 68 [some (.ref (b + 13)), some (.int (nI j)), some (.int (nI (zt z))), some (.int (nI (10000 + 100 * j))), some (.int (nI (zG z (zF z j)))), some (.int (nI (zG z (zO z j)))), some (.int (nI (ha z (zT z j)))), some (.int (nI (hb z (zT z j)))), some (.int (iI (er z j))), some (.int (nI i)), a10] [] (bset M b S)
    ) (fun S a10 hI hR hB hji => ?_) (fun i hi ih S a10 hI hR hB hji => ?_) (by omega) S none hI hR (by rw [swF_start _ (Nat.le_refl _)]; exact hB) (Nat.lt_succ_self j)
  · refine r_iload9 (pc := 68) dX3_offerSwapsOf_68 ?_
    refine r_iload2 (pc := 70) dX3_offerSwapsOf_70 ?_
    refine n_icmp_ge (pc := 71) 163 (by decide) dX3_offerSwapsOf_71 (by omega) (by omega) (fun hc71 => ?_) (fun hc71 => absurd hc71 (by omega))
    exact p_return (pc := 163) false rfl rfl dX3_offerSwapsOf_163 (Nat.zero_le _) (Nat.zero_le _) (Or.inl rfl) ⟨rfl, S, hI, hR, hB, rfl⟩
  · obtain ⟨s0, s1, s2, s3, s4, s5⟩ := hR i hi
    have hh := hZ.h hi
    have ti := hZ.hab (hZ.t hi)
    have gi := hZ.g (hZ.fq hi)
    have gi2 := hZ.g (hZ.oq hi)
    refine G_fgt 10 ?_
    refine r_iload9 (pc := 68) dX3_offerSwapsOf_68 ?_
    refine r_iload2 (pc := 70) dX3_offerSwapsOf_70 ?_
    refine n_icmp_ge (pc := 71) 163 (by decide) dX3_offerSwapsOf_71 (by omega) (by omega) (fun hc71 => absurd hc71 (by omega)) (fun hc71 => ?_)
    refine r_iload9 (pc := 74) dX3_offerSwapsOf_74 ?_
    refine n_bipush (pc := 76) 56 (by decide) dX3_offerSwapsOf_76 ?_
    refine n_icmp_ge (pc := 78) 163 (by decide) dX3_offerSwapsOf_78 (by omega) (by omega) (fun hc78 => absurd hc78 (by omega)) (fun hc78 => ?_)
    refine r_aload0 (pc := 81) dX3_offerSwapsOf_81 ?_
    refine r_getf (pc := 82) fl_X3_9 dX3_offerSwapsOf_82 (bget rfl) rfl ?_
    refine r_iload9 (pc := 85) dX3_offerSwapsOf_85 ?_
    refine n_iald (pc := 87) dX3_offerSwapsOf_87 (bget rfl) (by omega) (by decide) s0 ?_
    refine n_if_ne (pc := 88) 157 (by decide) dX3_offerSwapsOf_88 (by omega) (fun h9 => ?_) (fun h9 => ?_)
    · refine n_iinc9 (pc := 157) dX3_offerSwapsOf_157 rfl ?_
      refine r_goto (pc := 160) 68 (by decide) dX3_offerSwapsOf_160 ?_
      refine ih S _ hI hR ?_ (by omega)
      rw [show swF z j o (i + 1) = swF z j o i by show (if j < i ∧ zH z i = 0 then _ else _) = _; rw [if_neg (fun h => h9 h.2)]]
      exact hB
    · have hsb := sg_b hZ hj hi
      refine r_iload4 (pc := 91) dX3_offerSwapsOf_91 ?_
      refine r_iload5 (pc := 93) dX3_offerSwapsOf_93 ?_
      refine r_aload0 (pc := 95) dX3_offerSwapsOf_95 ?_
      refine r_getf (pc := 96) fl_X3_21 dX3_offerSwapsOf_96 (bget rfl) rfl ?_
      refine r_iload9 (pc := 99) dX3_offerSwapsOf_99 ?_
      refine n_iald (pc := 101) dX3_offerSwapsOf_101 (bget rfl) (by omega) (by decide) s3 ?_
      refine r_aload0 (pc := 102) dX3_offerSwapsOf_102 ?_
      refine r_getf (pc := 103) fl_X3_24 dX3_offerSwapsOf_103 (bget rfl) rfl ?_
      refine r_iload9 (pc := 106) dX3_offerSwapsOf_106 ?_
      refine n_iald (pc := 108) dX3_offerSwapsOf_108 (bget rfl) (by omega) (by decide) s4 ?_
      refine r_callS4i (pc := 109) lk_X3_112 dX3_offerSwapsOf_109 (s_leastOf gj gj2 ti.1 ti.2) (by decide) (Nat.le_of_ble_eq_true rfl) ⟨Nat.zero_le _, Nat.zero_le _⟩ ?_
      refine r_aload0 (pc := 112) dX3_offerSwapsOf_112 ?_
      refine r_getf (pc := 113) fl_X3_15 dX3_offerSwapsOf_113 (bget rfl) rfl ?_
      refine r_iload9 (pc := 116) dX3_offerSwapsOf_116 ?_
      refine n_iald (pc := 118) dX3_offerSwapsOf_118 (bget rfl) (by omega) (by decide) s1 ?_
      refine r_aload0 (pc := 119) dX3_offerSwapsOf_119 ?_
      refine r_getf (pc := 120) fl_X3_18 dX3_offerSwapsOf_120 (bget rfl) rfl ?_
      refine r_iload9 (pc := 123) dX3_offerSwapsOf_123 ?_
      refine n_iald (pc := 125) dX3_offerSwapsOf_125 (bget rfl) (by omega) (by decide) s2 ?_
      refine r_iload6 (pc := 126) dX3_offerSwapsOf_126 ?_
      refine r_iload7 (pc := 128) dX3_offerSwapsOf_128 ?_
      refine r_callS4i (pc := 130) lk_X3_112 dX3_offerSwapsOf_130 (s_leastOf gi gi2 tj.1 tj.2) (by decide) (Nat.le_of_ble_eq_true rfl) ⟨Nat.zero_le _, Nat.zero_le _⟩ ?_
      first | refine n_iadd (pc := 133) dX3_offerSwapsOf_133 ?_ | refine z_iadd (pc := 133) dX3_offerSwapsOf_133 ?_ | refine r_iadd (pc := 133) dX3_offerSwapsOf_133 ?_
      refine r_istore10 (pc := 134) dX3_offerSwapsOf_134 rfl ?_
      refine r_aload0 (pc := 136) dX3_offerSwapsOf_136 ?_
      refine r_iload3 (pc := 137) dX3_offerSwapsOf_137 ?_
      refine r_iload9 (pc := 138) dX3_offerSwapsOf_138 ?_
      first | refine n_iadd (pc := 140) dX3_offerSwapsOf_140 ?_ | refine z_iadd (pc := 140) dX3_offerSwapsOf_140 ?_ | refine r_iadd (pc := 140) dX3_offerSwapsOf_140 ?_
      refine r_iload8 (pc := 141) dX3_offerSwapsOf_141 ?_
      refine r_aload0 (pc := 143) dX3_offerSwapsOf_143 ?_
      refine r_getf (pc := 144) fl_X3_27 dX3_offerSwapsOf_144 (bget rfl) rfl ?_
      refine r_iload9 (pc := 147) dX3_offerSwapsOf_147 ?_
      refine n_iald (pc := 149) dX3_offerSwapsOf_149 (bget rfl) (by omega) (by decide) s5 ?_
      first | refine n_iadd (pc := 150) dX3_offerSwapsOf_150 ?_ | refine z_iadd (pc := 150) dX3_offerSwapsOf_150 ?_ | refine r_iadd (pc := 150) dX3_offerSwapsOf_150 ?_
      refine r_iload10 (pc := 151) dX3_offerSwapsOf_151 ?_
      first | refine n_isubI (pc := 153) dX3_offerSwapsOf_153 ?_ | refine z_isub (pc := 153) dX3_offerSwapsOf_153 ?_ | refine r_isub (pc := 153) dX3_offerSwapsOf_153 ?_
      have eg : er z j + er z i - (lst (zG z (zF z j)) (zG z (zO z j)) (ha z (zT z i)) (hb z (zT z i)) + lst (zG z (zF z i)) (zG z (zO z i)) (ha z (zT z j)) (hb z (zT z j))) = sgZ z j i := by
        unfold sgZ lw; omega
      rw [eg]
      refine r_callV2w (pc := 154) lk_X3_54 dX3_offerSwapsOf_154 (bget rfl) (s_offer hI hR hB (swF_ok hZ hj ho i (by omega)) (n := 10000 + 100 * j + i) (by omega) hsb.1 hsb.2)  (by decide) (Nat.le_of_ble_eq_true rfl) ⟨Nat.zero_le _, Nat.zero_le _⟩ (fun M9 h9 => ?_)
      obtain ⟨S, hI, hR, hB, rfl⟩ := h9
      refine n_iinc9 (pc := 157) dX3_offerSwapsOf_157 rfl ?_
      refine r_goto (pc := 160) 68 (by decide) dX3_offerSwapsOf_160 ?_
      refine ih S _ hI hR ?_ (by omega)
      rw [show swF z j o (i + 1) = offZ (swF z j o i) (10000 + 100 * j + i) (sgZ z j i) by show (if j < i ∧ zH z i = 0 then _ else _) = _; rw [if_pos ⟨hji, h9⟩]]
      exact hB
set_option maxRecDepth 20000 in
theorem s_findIn (hI : InvB S z) (hZ : ZOK z) : SpecP mX3_findIn 4 0 0 [.ref (b + 13), .ref b] (bset M b S) (tP none (SQ M b z (bestZ z))) := by
  have hd := hZ.dims
  refine Spec_of [some (.ref (b + 13)), some (.ref b), none, none] (by decide) (Nat.le_of_ble_eq_true rfl) rfl ?_
  refine r_aload0 (pc := 0) dX3_findIn_0 ?_
  refine r_iconst_m1 (pc := 1) dX3_findIn_1 ?_
  refine r_putfI (pc := 2) fl_X3_30 dX3_findIn_2 (bget rfl) (Nat.le_of_ble_eq_true rfl) ?_
  refine G_M bii_X3_0 ?_
  refine r_aload0 (pc := 5) dX3_findIn_5 ?_
  refine n_iconst_0 (pc := 6) dX3_findIn_6 ?_
  refine r_putfI (pc := 7) fl_X3_34 dX3_findIn_7 (bget rfl) (Nat.le_of_ble_eq_true rfl) ?_
  refine G_M bii_X3_1 ?_
  refine r_aload0 (pc := 10) dX3_findIn_10 ?_
  refine r_aload1 (pc := 11) dX3_findIn_11 ?_
  have hI0 := hI.cg (-1) (nI 0)
  refine r_callV1w (pc := 12) lk_X3_37 dX3_findIn_12 (bget rfl) (s_fillRows hI0 hZ (v := -1) (w := nI 0) rfl rfl)  (by decide) (Nat.le_of_ble_eq_true rfl) ⟨Nat.zero_le _, Nat.zero_le _⟩ (fun M9 h9 => ?_)
  obtain ⟨S, hI, hR, hv, hw, rfl⟩ := h9
  have hB : SB S (tuF z 0) := ⟨hv, by rw [hw]; rfl⟩
  refine n_iconst_0 (pc := 15) dX3_findIn_15 ?_
  refine r_istore2 (pc := 16) dX3_findIn_16 rfl ?_
  refine up_to (N := zt z) (k := 0) (fun i => ∀ S, InvB S z → RS S z (zt z) → SB S (tuF z i) →
    G mX3_findIn 4 (.inl false) 0 0 (tP none (SQ M b z (bestZ z))) none 0 0 17 [some (.ref (b + 13)), some (.ref b), some (.int (nI i)), none] [] (bset M b S)
    ) (fun S hI hR hB => ?_) (fun i hi ih S hI hR hB => ?_) (Nat.zero_le _) S hI hR hB
  · have hc3 := hI.c3
    refine r_iload2 (pc := 17) dX3_findIn_17 ?_
    refine r_aload1 (pc := 18) dX3_findIn_18 ?_
    refine r_getf (pc := 19) fl_X3_41 dX3_findIn_19 (bget0 rfl) rfl ?_
    rw [hc3]
    refine n_icmp_ge (pc := 22) 49 (by decide) dX3_findIn_22 (by omega) (by omega) (fun hc22 => ?_) (fun hc22 => absurd hc22 (by omega))
    refine n_iconst_0 (pc := 49) dX3_findIn_49 ?_
    refine r_istore2 (pc := 50) dX3_findIn_50 rfl ?_
    refine up_to (N := zt z) (k := 0) (fun i => ∀ S, InvB S z → RS S z (zt z) → SB S (swA z (tuF z (zt z)) i) →
      G mX3_findIn 4 (.inl false) 0 0 (tP none (SQ M b z (bestZ z))) none 0 0 51 [some (.ref (b + 13)), some (.ref b), some (.int (nI i)), none] [] (bset M b S)
      ) (fun S hI hR hB => ?_) (fun i hi ih S hI hR hB => ?_) (Nat.zero_le _) S hI hR hB
    · have hc3 := hI.c3
      refine r_iload2 (pc := 51) dX3_findIn_51 ?_
      refine r_aload1 (pc := 52) dX3_findIn_52 ?_
      refine r_getf (pc := 53) fl_X3_41 dX3_findIn_53 (bget0 rfl) rfl ?_
      rw [hc3]
      refine n_icmp_ge (pc := 56) 82 (by decide) dX3_findIn_56 (by omega) (by omega) (fun hc56 => ?_) (fun hc56 => absurd hc56 (by omega))
      refine n_iconst_0 (pc := 82) dX3_findIn_82 ?_
      refine r_istore2 (pc := 83) dX3_findIn_83 rfl ?_
      refine up_to (N := zt z) (k := 0) (fun i => ∀ S a3, InvB S z → RS S z (zt z) → SB S (flF z (swA z (tuF z (zt z)) (zt z)) i) →
        G mX3_findIn 4 (.inl false) 0 0 (tP none (SQ M b z (bestZ z))) none 0 0 84 [some (.ref (b + 13)), some (.ref b), some (.int (nI i)), a3] [] (bset M b S)
        ) (fun S a3 hI hR hB => ?_) (fun i hi ih S a3 hI hR hB => ?_) (Nat.zero_le _) S none hI hR hB
      · have hc3 := hI.c3
        refine r_iload2 (pc := 84) dX3_findIn_84 ?_
        refine r_aload1 (pc := 85) dX3_findIn_85 ?_
        refine r_getf (pc := 86) fl_X3_41 dX3_findIn_86 (bget0 rfl) rfl ?_
        rw [hc3]
        refine n_icmp_ge (pc := 89) 150 (by decide) dX3_findIn_89 (by omega) (by omega) (fun hc89 => ?_) (fun hc89 => absurd hc89 (by omega))
        exact p_return (pc := 150) false rfl rfl dX3_findIn_150 (Nat.zero_le _) (Nat.zero_le _) (Or.inl rfl) ⟨rfl, S, hI, hR, hB, rfl⟩
      · have hc3 := hI.c3
        have hfq := hZ.fq hi
        refine G_fgt 3 ?_
        refine r_iload2 (pc := 84) dX3_findIn_84 ?_
        refine r_aload1 (pc := 85) dX3_findIn_85 ?_
        refine r_getf (pc := 86) fl_X3_41 dX3_findIn_86 (bget0 rfl) rfl ?_
        rw [hc3]
        refine n_icmp_ge (pc := 89) 150 (by decide) dX3_findIn_89 (by omega) (by omega) (fun hc89 => absurd hc89 (by omega)) (fun hc89 => ?_)
        refine r_aload1 (pc := 92) dX3_findIn_92 ?_
        refine r_iload2 (pc := 93) dX3_findIn_93 ?_
        refine r_callV1i (pc := 94) lk_X3_61 dX3_findIn_94 (bget0 rfl) (s_partner hI hZ hi) (by decide) (Nat.le_of_ble_eq_true rfl) ⟨Nat.zero_le _, Nat.zero_le _⟩ ?_
        refine r_istore3 (pc := 97) dX3_findIn_97 rfl ?_
        refine r_iload3 (pc := 98) dX3_findIn_98 ?_
        refine r_iconst_m1 (pc := 99) dX3_findIn_99 ?_
        have e0 : flF z (swA z (tuF z (zt z)) (zt z)) (i + 1) = match part z i with
          | none => flF z (swA z (tuF z (zt z)) (zt z)) i
          | some l => if zH z i = 0 ∧ zH z l = 0 then offZ (flF z (swA z (tuF z (zt z)) (zt z)) i) (20000 + zF z i) (fgZ z i l) else flF z (swA z (tuF z (zt z)) (zt z)) i := rfl
        cases hp : part z i with
        | none =>
          rw [hp] at e0
          refine r_icmp_eq (pc := 100) 144 (by decide) dX3_findIn_100 (fun _ => ?_) (fun h9 => absurd rfl h9)
          refine n_iinc2 (pc := 144) dX3_findIn_144 rfl ?_
          refine r_goto (pc := 147) 84 (by decide) dX3_findIn_147 ?_
          exact ih S _ hI hR (by rw [e0]; exact hB)
        | some l =>
          rw [hp] at e0
          have hl := part_lt hZ hp
          have hfb := fg_b hZ hi hp
          refine r_icmp_eq (pc := 100) 144 (by decide) dX3_findIn_100 (fun h9 => absurd h9 (nI_ne_m1 (by omega))) (fun _ => ?_)
          refine r_aload1 (pc := 103) dX3_findIn_103 ?_
          refine r_iload2 (pc := 104) dX3_findIn_104 ?_
          refine r_callV1i (pc := 105) lk_X3_46 dX3_findIn_105 (bget0 rfl) (s_isHeld hI hZ hi) (by decide) (Nat.le_of_ble_eq_true rfl) ⟨Nat.zero_le _, Nat.zero_le _⟩ ?_
          refine b_if_ne (pc := 108) 144 (by decide) dX3_findIn_108 (fun h9 => ?_) (fun h9 => ?_)
          · refine n_iinc2 (pc := 144) dX3_findIn_144 rfl ?_
            refine r_goto (pc := 147) 84 (by decide) dX3_findIn_147 ?_
            exact ih S _ hI hR (by rw [e0]; simp at h9; simp [h9]; exact hB)
          · refine r_aload1 (pc := 111) dX3_findIn_111 ?_
            refine r_iload3 (pc := 112) dX3_findIn_112 ?_
            refine r_callV1i (pc := 113) lk_X3_46 dX3_findIn_113 (bget0 rfl) (s_isHeld hI hZ hl) (by decide) (Nat.le_of_ble_eq_true rfl) ⟨Nat.zero_le _, Nat.zero_le _⟩ ?_
            refine b_if_ne (pc := 116) 144 (by decide) dX3_findIn_116 (fun h8 => ?_) (fun h8 => ?_)
            · refine n_iinc2 (pc := 144) dX3_findIn_144 rfl ?_
              refine r_goto (pc := 147) 84 (by decide) dX3_findIn_147 ?_
              exact ih S _ hI hR (by rw [e0]; simp at h8; simp [h8]; exact hB)
            · refine r_aload0 (pc := 119) dX3_findIn_119 ?_
              refine n_sipush (pc := 120) 20000 (by decide) dX3_findIn_120 ?_
              refine r_aload1 (pc := 123) dX3_findIn_123 ?_
              refine r_getf (pc := 124) fl_X3_64 dX3_findIn_124 (bget0 rfl) rfl ?_
              refine r_getf (pc := 127) fl_X3_68 dX3_findIn_127 (bget rfl) rfl ?_
              refine r_iload2 (pc := 130) dX3_findIn_130 ?_
              refine r_callN2i (pc := 131) lk_X3_73 dX3_findIn_131 (s_at (bget rfl) (by omega) (by decide) (hI.F hi)) (by decide) (Nat.le_of_ble_eq_true rfl) ⟨Nat.zero_le _, Nat.zero_le _⟩ ?_
              first | refine n_iadd (pc := 134) dX3_findIn_134 ?_ | refine z_iadd (pc := 134) dX3_findIn_134 ?_ | refine r_iadd (pc := 134) dX3_findIn_134 ?_
              refine r_aload1 (pc := 135) dX3_findIn_135 ?_
              refine r_iload2 (pc := 136) dX3_findIn_136 ?_
              refine r_iload3 (pc := 137) dX3_findIn_137 ?_
              refine r_callV2i (pc := 138) lk_X3_77 dX3_findIn_138 (bget0 rfl) (s_flipGain hI hZ hi hp) (by decide) (Nat.le_of_ble_eq_true rfl) ⟨Nat.zero_le _, Nat.zero_le _⟩ ?_
              refine r_callV2w (pc := 141) lk_X3_54 dX3_findIn_141 (bget rfl) (s_offer hI hR hB (flF_ok hZ (swA_ok hZ (tuF_ok hZ _ (Nat.le_refl _)) _ (Nat.le_refl _)) i (by omega)) (n := 20000 + zF z i) (by omega) hfb.1 hfb.2)  (by decide) (Nat.le_of_ble_eq_true rfl) ⟨Nat.zero_le _, Nat.zero_le _⟩ (fun M9 h9 => ?_)
              obtain ⟨S, hI, hR, hB, rfl⟩ := h9
              refine n_iinc2 (pc := 144) dX3_findIn_144 rfl ?_
              refine r_goto (pc := 147) 84 (by decide) dX3_findIn_147 ?_
              exact ih S _ hI hR (by rw [e0]; simp at h8 h9; simp [h8, h9]; exact hB)
    · have hc3 := hI.c3
      refine r_iload2 (pc := 51) dX3_findIn_51 ?_
      refine r_aload1 (pc := 52) dX3_findIn_52 ?_
      refine r_getf (pc := 53) fl_X3_41 dX3_findIn_53 (bget0 rfl) rfl ?_
      rw [hc3]
      refine n_icmp_ge (pc := 56) 82 (by decide) dX3_findIn_56 (by omega) (by omega) (fun hc56 => absurd hc56 (by omega)) (fun hc56 => ?_)
      refine r_aload1 (pc := 59) dX3_findIn_59 ?_
      refine r_iload2 (pc := 60) dX3_findIn_60 ?_
      refine r_callV1i (pc := 61) lk_X3_46 dX3_findIn_61 (bget0 rfl) (s_isHeld hI hZ hi) (by decide) (Nat.le_of_ble_eq_true rfl) ⟨Nat.zero_le _, Nat.zero_le _⟩ ?_
      refine b_if_ne (pc := 64) 76 (by decide) dX3_findIn_64 (fun h9 => ?_) (fun h9 => ?_)
      · refine n_iinc2 (pc := 76) dX3_findIn_76 rfl ?_
        refine r_goto (pc := 79) 51 (by decide) dX3_findIn_79 ?_
        exact ih S hI hR (by rw [show swA z (tuF z (zt z)) (i + 1) = swA z (tuF z (zt z)) i from if_neg (by simpa using h9)]; exact hB)
      · refine r_aload0 (pc := 67) dX3_findIn_67 ?_
        refine r_iload2 (pc := 68) dX3_findIn_68 ?_
        refine r_aload1 (pc := 69) dX3_findIn_69 ?_
        refine r_getf (pc := 70) fl_X3_41 dX3_findIn_70 (bget0 rfl) rfl ?_
        rw [hc3]
        refine r_callV2w (pc := 73) lk_X3_58 dX3_findIn_73 (bget rfl) (s_offerSwapsOf hI hZ hR hB (swA_ok hZ (tuF_ok hZ _ (Nat.le_refl _)) i (by omega)) hi)  (by decide) (Nat.le_of_ble_eq_true rfl) ⟨Nat.zero_le _, Nat.zero_le _⟩ (fun M9 h9 => ?_)
        obtain ⟨S, hI, hR, hB, rfl⟩ := h9
        refine n_iinc2 (pc := 76) dX3_findIn_76 rfl ?_
        refine r_goto (pc := 79) 51 (by decide) dX3_findIn_79 ?_
        exact ih S hI hR (by rw [show swA z (tuF z (zt z)) (i + 1) = swF z i (swA z (tuF z (zt z)) i) (zt z) from if_pos (by simpa using h9)]; exact hB)
  · have hc3 := hI.c3
    have htb := tg_b hZ hi
    refine r_iload2 (pc := 17) dX3_findIn_17 ?_
    refine r_aload1 (pc := 18) dX3_findIn_18 ?_
    refine r_getf (pc := 19) fl_X3_41 dX3_findIn_19 (bget0 rfl) rfl ?_
    rw [hc3]
    refine n_icmp_ge (pc := 22) 49 (by decide) dX3_findIn_22 (by omega) (by omega) (fun hc22 => absurd hc22 (by omega)) (fun hc22 => ?_)
    refine r_aload1 (pc := 25) dX3_findIn_25 ?_
    refine r_iload2 (pc := 26) dX3_findIn_26 ?_
    refine r_callV1i (pc := 27) lk_X3_46 dX3_findIn_27 (bget0 rfl) (s_isHeld hI hZ hi) (by decide) (Nat.le_of_ble_eq_true rfl) ⟨Nat.zero_le _, Nat.zero_le _⟩ ?_
    refine b_if_ne (pc := 30) 43 (by decide) dX3_findIn_30 (fun h9 => ?_) (fun h9 => ?_)
    · refine n_iinc2 (pc := 43) dX3_findIn_43 rfl ?_
      refine r_goto (pc := 46) 17 (by decide) dX3_findIn_46 ?_
      exact ih S hI hR (by rw [show tuF z (i + 1) = tuF z i from if_neg (by simpa using h9)]; exact hB)
    · refine r_aload0 (pc := 33) dX3_findIn_33 ?_
      refine r_iload2 (pc := 34) dX3_findIn_34 ?_
      refine r_aload1 (pc := 35) dX3_findIn_35 ?_
      refine r_iload2 (pc := 36) dX3_findIn_36 ?_
      refine r_callV1i (pc := 37) lk_X3_50 dX3_findIn_37 (bget0 rfl) (s_turnGain hI hZ hi) (by decide) (Nat.le_of_ble_eq_true rfl) ⟨Nat.zero_le _, Nat.zero_le _⟩ ?_
      refine r_callV2w (pc := 40) lk_X3_54 dX3_findIn_40 (bget rfl) (s_offer hI hR hB (tuF_ok hZ i (by omega)) (n := i) (by omega) htb.1 htb.2)  (by decide) (Nat.le_of_ble_eq_true rfl) ⟨Nat.zero_le _, Nat.zero_le _⟩ (fun M9 h9 => ?_)
      obtain ⟨S, hI, hR, hB, rfl⟩ := h9
      refine n_iinc2 (pc := 43) dX3_findIn_43 rfl ?_
      refine r_goto (pc := 46) 17 (by decide) dX3_findIn_46 ?_
      exact ih S hI hR (by rw [show tuF z (i + 1) = offZ (tuF z i) i (tgZ z i) from if_pos (by simpa using h9)]; exact hB)
end FIND

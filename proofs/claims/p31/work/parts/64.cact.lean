section CACT
variable {M : Mem} {w : WS}
theorem bfr {M : Mem} {S S' : BS} {i : Nat} (h : 164 ≤ i) : bset M 1 S' i = bset M 1 S i := by rw [bset_out (by omega), bset_out (by omega)]
theorem s7_rem {S : BS} (hF : FACE (bset M 1 S) w) (hI : InvB S (wz w)) (hZ : ZOK (wz w)) : SpecP mX2_remember 2 0 0 [.ref 45, .ref (1 + 1)] (bset M 1 S) (tP none (fun Mf => ∃ M', Mf = bset M' 1 S ∧ FACE Mf (wRem w) ∧ ∀ i, 164 ≤ i → Mf i = bset M 1 S i)) := by
  obtain ⟨o, ho, hs⟩ := hF.2.2.2.1
  refine SpecP_mono (s_remember ho bst_at (by decide) (fun i hi => by obtain ⟨T, h, _⟩ := hs i hi; exact ⟨T, h⟩)) (fun v Mf h => ?_)
  obtain ⟨h1, T', e⟩ := h
  refine ⟨h1, Mf, ?_, ?_, fun i hi => ?_⟩
  · rw [e]
    exact (bset_ext (M := bset M 1 S) (fun i a b => rem_out (by omega)) bset_bset).symm
  · rw [e]; exact FACE.rem hF ho hs hI.st hZ
  · rw [e]; exact rem_out (by omega)
theorem s_isCount {x : Int32} : Spec mX7_isCountOfChanges 1 0 0 [.int x] M (some (.int (bI (inB x 1 20)))) M := by
  cases hc : inB x 1 20 with
  | false =>
    refine Spec_of [some (.int x)] (by decide) (Nat.le_of_ble_eq_true rfl) rfl ?_
    have no :
      G mX7_isCountOfChanges 1 (.inl false) 0 0 (dT (some (.int (bI false))) M) none 0 0 15 [some (.int x)] [] M
      := by
      refine n_iconst_0 (pc := 15) dX7_isCountOfChanges_15 ?_
      exact r_ireturn (pc := 16) false rfl rfl (by decide) dX7_isCountOfChanges_16 (Nat.zero_le _) (Nat.zero_le _) (Or.inl rfl) rfl rfl rfl
    refine r_iload0 (pc := 0) dX7_isCountOfChanges_0 ?_
    refine n_iconst_1 (pc := 1) dX7_isCountOfChanges_1 ?_
    refine r_icmp_lt (pc := 2) 15 (by decide) dX7_isCountOfChanges_2 (fun _ => no) (fun q1 => ?_)
    refine r_iload0 (pc := 5) dX7_isCountOfChanges_5 ?_
    refine n_bipush (pc := 6) 20 (by decide) dX7_isCountOfChanges_6 ?_
    exact r_icmp_gt (pc := 8) 15 (by decide) dX7_isCountOfChanges_8 (fun _ => no) (fun q2 => absurd (inB_lt hc (by decide) (by decide) q1) q2)
  | true =>
    obtain ⟨c1, c2, c3⟩ := inB_ex hc (by decide)
    have h := s_isCountOfChanges (M := M) (n := nm x) (by omega)
    rw [← c3, decide_eq_true ⟨c1, c2⟩] at h
    exact h

set_option maxRecDepth 20000 in
theorem s7_begin (hF : FACE M w) (hO : WOK w) {x y : Int32} : SpecX mX7_begin 8 1 6 [.ref 0, .int x, .int y] M (tFc [xIAE] M (A_begin x y w)) := by
  have hZ := hO.z
  have hd := hZ.dims
  have hn120 := hO.2.2.2.1
  have hk14 := hO.2.1.1
  obtain ⟨M, S, rfl, hI⟩ := hF.board
  have h0 : (bset M 1 S) 0 = some (cO 6 [.ref 1, .ref 23, .ref 45, .ref 145, .ref 162]) := hF.1
  have hX : TXT (bset M 1 S) 162 (wn w) (wf w) := hF.2.2.2.2.2
  refine SpecX_of [some (.ref 0), some (.int x), some (.int y)] (by decide) (Nat.le_of_ble_eq_true rfl) rfl ?_
  obtain ⟨o, ho, hs⟩ := hF.2.2.2.1
  have no : A_begin x y w = rN 1 w →
    G mX7_begin 8 (.inl true) 1 6 (tFc [xIAE] (bset M 1 S) (A_begin x y w)) none 0 0 21 [some (.ref 0), some (.int x), some (.int y)] [] (bset M 1 S)
    := by
    intro e
    exact G_throw (pc := 21) 20 rfl rfl th_44 rfl dX7_begin_21 dX7_begin_24 dX7_begin_25 dX7_begin_27 dX7_begin_30 (by decide) (by decide) (by decide) (tFx 0 e hF rfl)
  have ea : A_begin x y w = if inB x 2 6 && inB y 1 2 then rO (nI (zt (startZ (nm x) (nm y)))) (wAct w (startZ (nm x) (nm y))) else rN 1 w := rfl
  refine r_iload1 (pc := 0) dX7_begin_0 ?_
  refine n_iconst_2 (pc := 1) dX7_begin_1 ?_
  cases h1 : inB x 2 6 with
  | false =>
    have ea : A_begin x y w = rN 1 w := by rw [ea, h1]; rfl
    refine r_icmp_lt (pc := 2) 21 (by decide) dX7_begin_2 (fun _ => no ea) (fun q1 => ?_)
    refine r_iload1 (pc := 5) dX7_begin_5 ?_
    refine n_bipush (pc := 6) 6 (by decide) dX7_begin_6 ?_
    exact r_icmp_gt (pc := 8) 21 (by decide) dX7_begin_8 (fun _ => no ea) (fun q2 => absurd (inB_lt h1 (by decide) (by decide) q1) q2)
  | true =>
    obtain ⟨c1, c2, c3⟩ := inB_ex h1 (by decide)
    cases h2 : inB y 1 2 with
    | false =>
      have eb : A_begin x y w = rN 1 w := by rw [ea, h1, h2]; rfl
      have no2 := no eb
      clear ea eb no
      generalize nm x = n at *
      subst c3
      refine n_icmp_lt (pc := 2) 21 (by decide) dX7_begin_2 (by omega) (by omega) (fun hc2 => absurd hc2 (by omega)) (fun hc2 => ?_)
      refine r_iload1 (pc := 5) dX7_begin_5 ?_
      refine n_bipush (pc := 6) 6 (by decide) dX7_begin_6 ?_
      refine n_icmp_gt (pc := 8) 21 (by decide) dX7_begin_8 (by omega) (by omega) (fun hc8 => absurd hc8 (by omega)) (fun hc8 => ?_)
      refine r_iload2 (pc := 11) dX7_begin_11 ?_
      refine n_iconst_1 (pc := 12) dX7_begin_12 ?_
      refine r_icmp_lt (pc := 13) 21 (by decide) dX7_begin_13 (fun _ => no2) (fun q1 => ?_)
      refine r_iload2 (pc := 16) dX7_begin_16 ?_
      refine n_iconst_2 (pc := 17) dX7_begin_17 ?_
      exact r_icmp_le (pc := 18) 31 (by decide) dX7_begin_18 (fun q2 => absurd q2 (inB_le h2 (by decide) (by decide) q1)) (fun _ => no2)
    | true =>
      obtain ⟨e1, e2, e3⟩ := inB_ex h2 (by decide)
      have eb : A_begin x y w = rO (nI (zt (startZ (nm x) (nm y)))) (wAct w (startZ (nm x) (nm y))) := by rw [ea, h1, h2]; rfl
      clear ea no
      generalize nm x = n at *
      generalize nm y = m at *
      subst c3 e3
      refine n_icmp_lt (pc := 2) 21 (by decide) dX7_begin_2 (by omega) (by omega) (fun hc2 => absurd hc2 (by omega)) (fun hc2 => ?_)
      refine r_iload1 (pc := 5) dX7_begin_5 ?_
      refine n_bipush (pc := 6) 6 (by decide) dX7_begin_6 ?_
      refine n_icmp_gt (pc := 8) 21 (by decide) dX7_begin_8 (by omega) (by omega) (fun hc8 => absurd hc8 (by omega)) (fun hc8 => ?_)
      refine r_iload2 (pc := 11) dX7_begin_11 ?_
      refine n_iconst_1 (pc := 12) dX7_begin_12 ?_
      refine n_icmp_lt (pc := 13) 21 (by decide) dX7_begin_13 (by omega) (by omega) (fun hc13 => absurd hc13 (by omega)) (fun hc13 => ?_)
      refine r_iload2 (pc := 16) dX7_begin_16 ?_
      refine n_iconst_2 (pc := 17) dX7_begin_17 ?_
      refine n_icmp_le (pc := 18) 31 (by decide) dX7_begin_18 (by omega) (by omega) (fun hc18 => ?_) (fun hc18 => absurd hc18 (by omega))
      refine r_aload0 (pc := 31) dX7_begin_31 ?_
      refine r_getf (pc := 32) fl_X7_22 dX7_begin_32 h0 rfl ?_
      refine r_aload0 (pc := 35) dX7_begin_35 ?_
      refine r_getf (pc := 36) fl_X7_10 dX7_begin_36 h0 rfl ?_
      refine r_getf (pc := 39) fl_X7_101 dX7_begin_39 (bget0 rfl) rfl ?_
      refine r_callV1w (pc := 42) lk_X7_222 dX7_begin_42 ho.2.2.1 (s7_rem hF hI hZ)  (by decide) (Nat.le_of_ble_eq_true rfl) ⟨Nat.zero_le _, Nat.zero_le _⟩ (fun M9 h9 => ?_)
      obtain ⟨M2, rfl, hF2, hk2⟩ := h9
      have h0 : bset M2 1 S 0 = some (cO 6 [.ref 1, .ref 23, .ref 45, .ref 145, .ref 162]) := hF2.1
      refine r_aload0 (pc := 45) dX7_begin_45 ?_
      refine r_getf (pc := 46) fl_X7_10 dX7_begin_46 h0 rfl ?_
      refine r_iload1 (pc := 49) dX7_begin_49 ?_
      refine r_iload2 (pc := 50) dX7_begin_50 ?_
      refine r_callV2w (pc := 51) lk_X7_40 dX7_begin_51 (bget0 rfl) (s_start c1 c2 e1 e2)  (by decide) (Nat.le_of_ble_eq_true rfl) ⟨Nat.zero_le _, Nat.zero_le _⟩ (fun M9 h9 => ?_)
      obtain ⟨S2, hI2, rfl⟩ := h9
      have h0 : bset M2 1 S2 0 = some (cO 6 [.ref 1, .ref 23, .ref 45, .ref 145, .ref 162]) := (FACE.setB hF2 hI2).1
      refine r_aload0 (pc := 54) dX7_begin_54 ?_
      refine r_getf (pc := 55) fl_X7_10 dX7_begin_55 h0 rfl ?_
      refine r_getf (pc := 58) fl_X7_119 dX7_begin_58 (bget0 rfl) rfl ?_
      rw [hI2.c3]
      exact p_ireturn (pc := 61) true rfl rfl rfl dX7_begin_61 (Nat.zero_le _) (Nat.zero_le _) (Or.inl rfl) (tFo eb (FACE.setB hF2 hI2) (fun i hi => (bfr hi).trans (hk2 i hi)))
set_option maxRecDepth 20000 in
theorem s7_grey (hF : FACE M w) (hO : WOK w) {x y g : Int32} : SpecX mX7_grey 8 1 6 [.ref 0, .int x, .int y, .int g] M (tFc [xIOB, xIAE] M (A_grey x y g w)) := by
  have hZ := hO.z
  have hd := hZ.dims
  have hn120 := hO.2.2.2.1
  have hk14 := hO.2.1.1
  obtain ⟨M, S, rfl, hI⟩ := hF.board
  have h0 : (bset M 1 S) 0 = some (cO 6 [.ref 1, .ref 23, .ref 45, .ref 145, .ref 162]) := hF.1
  have hX : TXT (bset M 1 S) 162 (wn w) (wf w) := hF.2.2.2.2.2
  refine SpecX_of [some (.ref 0), some (.int x), some (.int y), some (.int g), none, none] (by decide) (Nat.le_of_ble_eq_true rfl) rfl ?_
  obtain ⟨o, ho, hs⟩ := hF.2.2.2.1
  have ea : A_grey x y g w = if inQ (wz w) x y then (if inB g 0 99 then rO (nI (zG (wz w) (sqn (wz w) x y))) (wAct w (greyZ (wz w) (sqn (wz w) x y) (nm g))) else rN 2 w) else rN 1 w := rfl
  refine r_aload0 (pc := 0) dX7_grey_0 ?_
  refine r_getf (pc := 1) fl_X7_10 dX7_grey_1 h0 rfl ?_
  refine r_iload1 (pc := 4) dX7_grey_4 ?_
  refine r_iload2 (pc := 5) dX7_grey_5 ?_
  refine r_callV2i (pc := 6) lk_X7_147 dX7_grey_6 (bget0 rfl) (s_hasSquare hI hZ) (by decide) (Nat.le_of_ble_eq_true rfl) ⟨Nat.zero_le _, Nat.zero_le _⟩ ?_
  refine b_if_ne (pc := 9) 22 (by decide) dX7_grey_9 (fun h1 => ?_) (fun h1 => ?_)
  · have hq : inQ (wz w) x y = true := h1
    rw [hq] at ea
    have ea : A_grey x y g w = if inB g 0 99 then rO (nI (zG (wz w) (sqn (wz w) x y))) (wAct w (greyZ (wz w) (sqn (wz w) x y) (nm g))) else rN 2 w := ea
    refine r_iload3 (pc := 22) dX7_grey_22 ?_
    refine r_callS1i (pc := 23) lk_X7_226 dX7_grey_23 s_isGrey (by decide) (Nat.le_of_ble_eq_true rfl) ⟨Nat.zero_le _, Nat.zero_le _⟩ ?_
    rw [← inB_R (n := 99)]
    refine b_if_ne (pc := 26) 39 (by decide) dX7_grey_26 (fun h2 => ?_) (fun h2 => ?_)
    · rw [h2] at ea
      have ea : A_grey x y g w = rO (nI (zG (wz w) (sqn (wz w) x y))) (wAct w (greyZ (wz w) (sqn (wz w) x y) (nm g))) := ea
      rw [Bool.and_eq_true] at h1
      obtain ⟨c1, c2⟩ := inR_nm h1.1 (by omega)
      obtain ⟨e1, e2⟩ := inR_nm h1.2 (by omega)
      obtain ⟨g1, g2, g3⟩ := inB_ex h2 (by decide)
      unfold sqn at ea
      generalize nm x = n at *
      generalize nm y = m at *
      generalize nm g = gg at *
      subst c2 e2 g3
      have hsq : m * zc (wz w) + n < zq (wz w) := by have := sq_in c1 e1; rw [Nat.mul_comm]; exact this
      refine r_aload0 (pc := 39) dX7_grey_39 ?_
      refine r_getf (pc := 40) fl_X7_22 dX7_grey_40 h0 rfl ?_
      refine r_aload0 (pc := 43) dX7_grey_43 ?_
      refine r_getf (pc := 44) fl_X7_10 dX7_grey_44 h0 rfl ?_
      refine r_getf (pc := 47) fl_X7_101 dX7_grey_47 (bget0 rfl) rfl ?_
      refine r_callV1w (pc := 50) lk_X7_222 dX7_grey_50 ho.2.2.1 (s7_rem hF hI hZ)  (by decide) (Nat.le_of_ble_eq_true rfl) ⟨Nat.zero_le _, Nat.zero_le _⟩ (fun M9 h9 => ?_)
      obtain ⟨M2, rfl, hF2, hk2⟩ := h9
      have h0 : bset M2 1 S 0 = some (cO 6 [.ref 1, .ref 23, .ref 45, .ref 145, .ref 162]) := hF2.1
      refine r_aload0 (pc := 53) dX7_grey_53 ?_
      refine r_getf (pc := 54) fl_X7_10 dX7_grey_54 h0 rfl ?_
      refine r_iload1 (pc := 57) dX7_grey_57 ?_
      refine r_iload2 (pc := 58) dX7_grey_58 ?_
      refine r_callV2i (pc := 59) lk_X7_156 dX7_grey_59 (bget0 rfl) (s_squareAt hI) (by decide) (Nat.le_of_ble_eq_true rfl) ⟨Nat.zero_le _, Nat.zero_le _⟩ ?_
      generalize m * zc (wz w) + n = s at *
      refine r_istore4 (pc := 62) dX7_grey_62 rfl ?_
      refine r_aload0 (pc := 64) dX7_grey_64 ?_
      refine r_getf (pc := 65) fl_X7_10 dX7_grey_65 h0 rfl ?_
      refine r_getf (pc := 68) fl_X7_101 dX7_grey_68 (bget0 rfl) rfl ?_
      refine r_getf (pc := 71) fl_X7_160 dX7_grey_71 (bget rfl) rfl ?_
      refine r_iload4 (pc := 74) dX7_grey_74 ?_
      refine r_callS2i (pc := 76) lk_X7_163 dX7_grey_76 (s_at (bget rfl) (by omega) (by decide) (hI.G hsq)) (by decide) (Nat.le_of_ble_eq_true rfl) ⟨Nat.zero_le _, Nat.zero_le _⟩ ?_
      refine r_istore5 (pc := 79) dX7_grey_79 rfl ?_
      refine r_aload0 (pc := 81) dX7_grey_81 ?_
      refine r_getf (pc := 82) fl_X7_10 dX7_grey_82 h0 rfl ?_
      refine r_getf (pc := 85) fl_X7_101 dX7_grey_85 (bget0 rfl) rfl ?_
      refine r_getf (pc := 88) fl_X7_160 dX7_grey_88 (bget rfl) rfl ?_
      refine r_iload4 (pc := 91) dX7_grey_91 ?_
      refine r_iload3 (pc := 93) dX7_grey_93 ?_
      refine r_callS3v (pc := 94) lk_X7_231 dX7_grey_94 (s_putB (j := 2) (by decide) rfl (fun _ => rfl) (by omega) (by decide)) (by decide) (Nat.le_of_ble_eq_true rfl) ⟨Nat.zero_le _, Nat.zero_le _⟩ ?_
      have hI2 : InvB (ia S 2 (upd (S.2 2) s (nI gg))) (greyZ (wz w) s gg) := InvB.setG (g0 := zG (wz w)) hI (upd_ups (fun _ h => hI.G h) rfl)
      refine r_iload5 (pc := 97) dX7_grey_97 ?_
      exact p_ireturn (pc := 99) true rfl rfl rfl dX7_grey_99 (Nat.zero_le _) (Nat.zero_le _) (Or.inl rfl) (tFo ea (FACE.setB hF2 hI2) (fun i hi => (bfr hi).trans (hk2 i hi)))
    · exact G_throw (pc := 29) 21 rfl rfl th_44 rfl dX7_grey_29 dX7_grey_32 dX7_grey_33 dX7_grey_35 dX7_grey_38 (by decide) (by decide) (by decide) (tFx 1 (by rw [ea, h2]; rfl) hF rfl)
  · have hq : inQ (wz w) x y = false := h1
    exact G_throw (pc := 12) 14 rfl rfl th_151 rfl dX7_grey_12 dX7_grey_15 dX7_grey_16 dX7_grey_18 dX7_grey_21 (by decide) (by decide) (by decide) (tFx 0 (by rw [ea, hq]; rfl) hF rfl)
set_option maxRecDepth 20000 in
theorem s7_fade (hF : FACE M w) (hO : WOK w) {x y : Int32} : SpecX mX7_fade 8 1 6 [.ref 0, .int x, .int y] M (tFc [xIAE] M (A_fade x y w)) := by
  have hZ := hO.z
  have hd := hZ.dims
  have hn120 := hO.2.2.2.1
  have hk14 := hO.2.1.1
  obtain ⟨M, S, rfl, hI⟩ := hF.board
  have h0 : (bset M 1 S) 0 = some (cO 6 [.ref 1, .ref 23, .ref 45, .ref 145, .ref 162]) := hF.1
  have hX : TXT (bset M 1 S) 162 (wn w) (wf w) := hF.2.2.2.2.2
  refine SpecX_of [some (.ref 0), some (.int x), some (.int y)] (by decide) (Nat.le_of_ble_eq_true rfl) rfl ?_
  obtain ⟨o, ho, hs⟩ := hF.2.2.2.1
  have no : A_fade x y w = rN 1 w →
    G mX7_fade 8 (.inl true) 1 6 (tFc [xIAE] (bset M 1 S) (A_fade x y w)) none 0 0 14 [some (.ref 0), some (.int x), some (.int y)] [] (bset M 1 S)
    := by
    intro e
    exact G_throw (pc := 14) 21 rfl rfl th_44 rfl dX7_fade_14 dX7_fade_17 dX7_fade_18 dX7_fade_20 dX7_fade_23 (by decide) (by decide) (by decide) (tFx 0 e hF rfl)
  have ea : A_fade x y w = if inB x 0 99 && inB y 0 99 then rO (iI (erAll (fadeZ (wz w) (nm x) (nm y)))) (wAct w (fadeZ (wz w) (nm x) (nm y))) else rN 1 w := rfl
  refine r_iload1 (pc := 0) dX7_fade_0 ?_
  refine r_callS1i (pc := 1) lk_X7_226 dX7_fade_1 s_isGrey (by decide) (Nat.le_of_ble_eq_true rfl) ⟨Nat.zero_le _, Nat.zero_le _⟩ ?_
  rw [← inB_R (n := 99)]
  refine b_if_eq (pc := 4) 14 (by decide) dX7_fade_4 (fun h1 => no (by rw [ea, h1]; rfl)) (fun h1 => ?_)
  refine r_iload2 (pc := 7) dX7_fade_7 ?_
  refine r_callS1i (pc := 8) lk_X7_226 dX7_fade_8 s_isGrey (by decide) (Nat.le_of_ble_eq_true rfl) ⟨Nat.zero_le _, Nat.zero_le _⟩ ?_
  rw [← inB_R (n := 99)]
  refine b_if_ne (pc := 11) 24 (by decide) dX7_fade_11 (fun h2 => ?_) (fun h2 => no (by rw [ea, h1, h2]; rfl))
  have eb : A_fade x y w = rO (iI (erAll (fadeZ (wz w) (nm x) (nm y)))) (wAct w (fadeZ (wz w) (nm x) (nm y))) := by rw [ea, h1, h2]; rfl
  clear ea no
  obtain ⟨c1, c2, c3⟩ := inB_ex h1 (by decide)
  obtain ⟨e1, e2, e3⟩ := inB_ex h2 (by decide)
  generalize nm x = n at *
  generalize nm y = m at *
  subst c3 e3
  refine r_aload0 (pc := 24) dX7_fade_24 ?_
  refine r_getf (pc := 25) fl_X7_22 dX7_fade_25 h0 rfl ?_
  refine r_aload0 (pc := 28) dX7_fade_28 ?_
  refine r_getf (pc := 29) fl_X7_10 dX7_fade_29 h0 rfl ?_
  refine r_getf (pc := 32) fl_X7_101 dX7_fade_32 (bget0 rfl) rfl ?_
  refine r_callV1w (pc := 35) lk_X7_222 dX7_fade_35 ho.2.2.1 (s7_rem hF hI hZ)  (by decide) (Nat.le_of_ble_eq_true rfl) ⟨Nat.zero_le _, Nat.zero_le _⟩ (fun M9 h9 => ?_)
  obtain ⟨M2, rfl, hF2, hk2⟩ := h9
  have h0 : bset M2 1 S 0 = some (cO 6 [.ref 1, .ref 23, .ref 45, .ref 145, .ref 162]) := hF2.1
  refine r_aload0 (pc := 38) dX7_fade_38 ?_
  refine r_getf (pc := 39) fl_X7_10 dX7_fade_39 h0 rfl ?_
  refine r_iload1 (pc := 42) dX7_fade_42 ?_
  refine r_iload2 (pc := 43) dX7_fade_43 ?_
  refine r_callV2w (pc := 44) lk_X7_235 dX7_fade_44 (bget0 rfl) (s_fadeAll hI hZ c2 e2)  (by decide) (Nat.le_of_ble_eq_true rfl) ⟨Nat.zero_le _, Nat.zero_le _⟩ (fun M9 h9 => ?_)
  obtain ⟨S2, hI2, rfl⟩ := h9
  have h0 : bset M2 1 S2 0 = some (cO 6 [.ref 1, .ref 23, .ref 45, .ref 145, .ref 162]) := (FACE.setB hF2 hI2).1
  refine r_aload0 (pc := 47) dX7_fade_47 ?_
  refine r_getf (pc := 48) fl_X7_10 dX7_fade_48 h0 rfl ?_
  refine r_callV0i (pc := 51) lk_X7_122 dX7_fade_51 (bget0 rfl) (s_errorOfAll hI2 (fadeZ_ok hZ c2 e2)) (by decide) (Nat.le_of_ble_eq_true rfl) ⟨Nat.zero_le _, Nat.zero_le _⟩ ?_
  exact p_ireturn (pc := 54) true rfl rfl rfl dX7_fade_54 (Nat.zero_le _) (Nat.zero_le _) (Or.inl rfl) (tFo eb (FACE.setB hF2 hI2) (fun i hi => (bfr hi).trans (hk2 i hi)))
set_option maxRecDepth 20000 in
theorem s7_turn (hF : FACE M w) (hO : WOK w) {x : Int32} : SpecX mX7_turn 8 1 6 [.ref 0, .int x] M (tFc [xIOB, xISE] M (A_turn x w)) := by
  have hZ := hO.z
  have hd := hZ.dims
  have hn120 := hO.2.2.2.1
  have hk14 := hO.2.1.1
  obtain ⟨M, S, rfl, hI⟩ := hF.board
  have h0 : (bset M 1 S) 0 = some (cO 6 [.ref 1, .ref 23, .ref 45, .ref 145, .ref 162]) := hF.1
  have hX : TXT (bset M 1 S) 162 (wn w) (wf w) := hF.2.2.2.2.2
  refine SpecX_of [some (.ref 0), some (.int x), none] (by decide) (Nat.le_of_ble_eq_true rfl) rfl ?_
  obtain ⟨o, ho, hs⟩ := hF.2.2.2.1
  have ea : A_turn x w = if inR x (zt (wz w)) then (if zH (wz w) (nm x) = 0 then rO (iI (tgZ (wz w) (nm x))) (wAct w (turnZ (wz w) (nm x))) else rN 2 w) else rN 1 w := rfl
  refine r_aload0 (pc := 0) dX7_turn_0 ?_
  refine r_getf (pc := 1) fl_X7_10 dX7_turn_1 h0 rfl ?_
  refine r_iload1 (pc := 4) dX7_turn_4 ?_
  refine r_callV1i (pc := 5) lk_X7_181 dX7_turn_5 (bget0 rfl) (s_hasPlace hI hZ) (by decide) (Nat.le_of_ble_eq_true rfl) ⟨Nat.zero_le _, Nat.zero_le _⟩ ?_
  refine b_if_ne (pc := 8) 21 (by decide) dX7_turn_8 (fun h1 => ?_) (fun h1 => ?_)
  · rw [h1] at ea
    have ea : A_turn x w = if zH (wz w) (nm x) = 0 then rO (iI (tgZ (wz w) (nm x))) (wAct w (turnZ (wz w) (nm x))) else rN 2 w := ea
    obtain ⟨c1, c2⟩ := inR_nm h1 (by omega)
    generalize nm x = k at *
    subst c2
    refine r_aload0 (pc := 21) dX7_turn_21 ?_
    refine r_getf (pc := 22) fl_X7_10 dX7_turn_22 h0 rfl ?_
    refine r_iload1 (pc := 25) dX7_turn_25 ?_
    refine r_callV1i (pc := 26) lk_X7_238 dX7_turn_26 (bget0 rfl) (s_isHeld hI hZ c1) (by decide) (Nat.le_of_ble_eq_true rfl) ⟨Nat.zero_le _, Nat.zero_le _⟩ ?_
    refine b_if_eq (pc := 29) 42 (by decide) dX7_turn_29 (fun h9 => ?_) (fun h9 => ?_)
    · have h9 : ¬ zH (wz w) k ≠ 0 := of_decide_eq_false h9
      rw [if_pos (by omega), ← turn_gain c1] at ea
      refine r_aload0 (pc := 42) dX7_turn_42 ?_
      refine r_getf (pc := 43) fl_X7_22 dX7_turn_43 h0 rfl ?_
      refine r_aload0 (pc := 46) dX7_turn_46 ?_
      refine r_getf (pc := 47) fl_X7_10 dX7_turn_47 h0 rfl ?_
      refine r_getf (pc := 50) fl_X7_101 dX7_turn_50 (bget0 rfl) rfl ?_
      refine r_callV1w (pc := 53) lk_X7_222 dX7_turn_53 ho.2.2.1 (s7_rem hF hI hZ)  (by decide) (Nat.le_of_ble_eq_true rfl) ⟨Nat.zero_le _, Nat.zero_le _⟩ (fun M9 h9 => ?_)
      obtain ⟨M2, rfl, hF2, hk2⟩ := h9
      have h0 : bset M2 1 S 0 = some (cO 6 [.ref 1, .ref 23, .ref 45, .ref 145, .ref 162]) := hF2.1
      refine r_aload0 (pc := 56) dX7_turn_56 ?_
      refine r_getf (pc := 57) fl_X7_10 dX7_turn_57 h0 rfl ?_
      refine r_callV0i (pc := 60) lk_X7_122 dX7_turn_60 (bget0 rfl) (s_errorOfAll hI hZ) (by decide) (Nat.le_of_ble_eq_true rfl) ⟨Nat.zero_le _, Nat.zero_le _⟩ ?_
      refine r_istore2 (pc := 63) dX7_turn_63 rfl ?_
      refine r_aload0 (pc := 64) dX7_turn_64 ?_
      refine r_getf (pc := 65) fl_X7_10 dX7_turn_65 h0 rfl ?_
      refine r_iload1 (pc := 68) dX7_turn_68 ?_
      refine r_callV1w (pc := 69) lk_X7_243 dX7_turn_69 (bget0 rfl) (s_turnPlace hI hZ c1)  (by decide) (Nat.le_of_ble_eq_true rfl) ⟨Nat.zero_le _, Nat.zero_le _⟩ (fun M9 h9 => ?_)
      obtain ⟨S2, hI2, rfl⟩ := h9
      have h0 : bset M2 1 S2 0 = some (cO 6 [.ref 1, .ref 23, .ref 45, .ref 145, .ref 162]) := (FACE.setB hF2 hI2).1
      refine r_iload2 (pc := 72) dX7_turn_72 ?_
      refine r_aload0 (pc := 73) dX7_turn_73 ?_
      refine r_getf (pc := 74) fl_X7_10 dX7_turn_74 h0 rfl ?_
      refine r_callV0i (pc := 77) lk_X7_122 dX7_turn_77 (bget0 rfl) (s_errorOfAll hI2 (turnZ_ok hZ _)) (by decide) (Nat.le_of_ble_eq_true rfl) ⟨Nat.zero_le _, Nat.zero_le _⟩ ?_
      first | refine n_isubI (pc := 80) dX7_turn_80 ?_ | refine z_isub (pc := 80) dX7_turn_80 ?_ | refine r_isub (pc := 80) dX7_turn_80 ?_
      exact p_ireturn (pc := 81) true rfl rfl rfl dX7_turn_81 (Nat.zero_le _) (Nat.zero_le _) (Or.inl rfl) (tFo ea (FACE.setB hF2 hI2) (fun i hi => (bfr hi).trans (hk2 i hi)))
    · have h9 : zH (wz w) k ≠ 0 := of_decide_eq_true h9
      rw [if_neg h9] at ea
      exact G_throw (pc := 32) 22 rfl rfl th_55 rfl dX7_turn_32 dX7_turn_35 dX7_turn_36 dX7_turn_38 dX7_turn_41 (by decide) (by decide) (by decide) (tFx 1 ea hF rfl)
  · exact G_throw (pc := 11) 16 rfl rfl th_151 rfl dX7_turn_11 dX7_turn_14 dX7_turn_15 dX7_turn_17 dX7_turn_20 (by decide) (by decide) (by decide) (tFx 0 (by rw [ea, h1]; rfl) hF rfl)
set_option maxRecDepth 20000 in
theorem s7_swap (hF : FACE M w) (hO : WOK w) {x y : Int32} : SpecX mX7_swap 8 1 6 [.ref 0, .int x, .int y] M (tFc [xIOB, xIAE, xISE] M (A_swap x y w)) := by
  have hZ := hO.z
  have hd := hZ.dims
  have hn120 := hO.2.2.2.1
  have hk14 := hO.2.1.1
  obtain ⟨M, S, rfl, hI⟩ := hF.board
  have h0 : (bset M 1 S) 0 = some (cO 6 [.ref 1, .ref 23, .ref 45, .ref 145, .ref 162]) := hF.1
  have hX : TXT (bset M 1 S) 162 (wn w) (wf w) := hF.2.2.2.2.2
  refine SpecX_of [some (.ref 0), some (.int x), some (.int y), none] (by decide) (Nat.le_of_ble_eq_true rfl) rfl ?_
  obtain ⟨o, ho, hs⟩ := hF.2.2.2.1
  have no : A_swap x y w = rN 1 w →
    G mX7_swap 8 (.inl true) 1 6 (tFc [xIOB, xIAE, xISE] (bset M 1 S) (A_swap x y w)) none 0 0 22 [some (.ref 0), some (.int x), some (.int y), none] [] (bset M 1 S)
    := by
    intro e
    exact G_throw (pc := 22) 16 rfl rfl th_151 rfl dX7_swap_22 dX7_swap_25 dX7_swap_26 dX7_swap_28 dX7_swap_31 (by decide) (by decide) (by decide) (tFx 0 e hF rfl)
  have ea : A_swap x y w = if inR x (zt (wz w)) && inR y (zt (wz w)) then (if nm x = nm y then rN 2 w else if zH (wz w) (nm x) = 0 ∧ zH (wz w) (nm y) = 0 then rO (iI (sgZ (wz w) (nm x) (nm y))) (wAct w (swapZ (wz w) (nm x) (nm y))) else rN 3 w) else rN 1 w := rfl
  refine r_aload0 (pc := 0) dX7_swap_0 ?_
  refine r_getf (pc := 1) fl_X7_10 dX7_swap_1 h0 rfl ?_
  refine r_iload1 (pc := 4) dX7_swap_4 ?_
  refine r_callV1i (pc := 5) lk_X7_181 dX7_swap_5 (bget0 rfl) (s_hasPlace hI hZ) (by decide) (Nat.le_of_ble_eq_true rfl) ⟨Nat.zero_le _, Nat.zero_le _⟩ ?_
  refine b_if_eq (pc := 8) 22 (by decide) dX7_swap_8 (fun h1 => no (by rw [ea, h1]; rfl)) (fun h1 => ?_)
  refine r_aload0 (pc := 11) dX7_swap_11 ?_
  refine r_getf (pc := 12) fl_X7_10 dX7_swap_12 h0 rfl ?_
  refine r_iload2 (pc := 15) dX7_swap_15 ?_
  refine r_callV1i (pc := 16) lk_X7_181 dX7_swap_16 (bget0 rfl) (s_hasPlace hI hZ) (by decide) (Nat.le_of_ble_eq_true rfl) ⟨Nat.zero_le _, Nat.zero_le _⟩ ?_
  refine b_if_ne (pc := 19) 32 (by decide) dX7_swap_19 (fun h2 => ?_) (fun h2 => no (by rw [ea, h1, h2]; rfl))
  rw [h1, h2] at ea
  have ea : A_swap x y w = if nm x = nm y then rN 2 w else if zH (wz w) (nm x) = 0 ∧ zH (wz w) (nm y) = 0 then rO (iI (sgZ (wz w) (nm x) (nm y))) (wAct w (swapZ (wz w) (nm x) (nm y))) else rN 3 w := ea
  obtain ⟨c1, c2⟩ := inR_nm h1 (by omega)
  obtain ⟨e1, e2⟩ := inR_nm h2 (by omega)
  generalize nm x = j at *
  generalize nm y = k at *
  subst c2 e2
  refine r_iload1 (pc := 32) dX7_swap_32 ?_
  refine r_iload2 (pc := 33) dX7_swap_33 ?_
  refine n_icmp_ne (pc := 34) 47 (by decide) dX7_swap_34 (by omega) (by omega) (fun h3 => ?_) (fun h3 => ?_)
  · rw [if_neg h3] at ea
    have held : ¬ (zH (wz w) j = 0 ∧ zH (wz w) k = 0) →
      G mX7_swap 8 (.inl true) 1 6 (tFc [xIOB, xIAE, xISE] (bset M 1 S) (A_swap (nI j) (nI k) w)) none 0 0 69 [some (.ref 0), some (.int (nI j)), some (.int (nI k)), none] [] (bset M 1 S)
      := by
      intro h9
      rw [if_neg h9] at ea
      exact G_throw (pc := 69) 24 rfl rfl th_55 rfl dX7_swap_69 dX7_swap_72 dX7_swap_73 dX7_swap_75 dX7_swap_78 (by decide) (by decide) (by decide) (tFx 2 ea hF rfl)
    refine r_aload0 (pc := 47) dX7_swap_47 ?_
    refine r_getf (pc := 48) fl_X7_10 dX7_swap_48 h0 rfl ?_
    refine r_iload1 (pc := 51) dX7_swap_51 ?_
    refine r_callV1i (pc := 52) lk_X7_238 dX7_swap_52 (bget0 rfl) (s_isHeld hI hZ c1) (by decide) (Nat.le_of_ble_eq_true rfl) ⟨Nat.zero_le _, Nat.zero_le _⟩ ?_
    refine b_if_ne (pc := 55) 69 (by decide) dX7_swap_55 (fun h9 => held (fun q => absurd q.1 (of_decide_eq_true h9))) (fun h4 => ?_)
    refine r_aload0 (pc := 58) dX7_swap_58 ?_
    refine r_getf (pc := 59) fl_X7_10 dX7_swap_59 h0 rfl ?_
    refine r_iload2 (pc := 62) dX7_swap_62 ?_
    refine r_callV1i (pc := 63) lk_X7_238 dX7_swap_63 (bget0 rfl) (s_isHeld hI hZ e1) (by decide) (Nat.le_of_ble_eq_true rfl) ⟨Nat.zero_le _, Nat.zero_le _⟩ ?_
    refine b_if_eq (pc := 66) 79 (by decide) dX7_swap_66 (fun h5 => ?_) (fun h9 => held (fun q => absurd q.2 (of_decide_eq_true h9)))
    have h4 : ¬ zH (wz w) j ≠ 0 := of_decide_eq_false h4
    have h5 : ¬ zH (wz w) k ≠ 0 := of_decide_eq_false h5
    rw [if_pos ⟨by omega, by omega⟩, ← swap_gain c1 e1 h3] at ea
    refine r_aload0 (pc := 79) dX7_swap_79 ?_
    refine r_getf (pc := 80) fl_X7_22 dX7_swap_80 h0 rfl ?_
    refine r_aload0 (pc := 83) dX7_swap_83 ?_
    refine r_getf (pc := 84) fl_X7_10 dX7_swap_84 h0 rfl ?_
    refine r_getf (pc := 87) fl_X7_101 dX7_swap_87 (bget0 rfl) rfl ?_
    refine r_callV1w (pc := 90) lk_X7_222 dX7_swap_90 ho.2.2.1 (s7_rem hF hI hZ)  (by decide) (Nat.le_of_ble_eq_true rfl) ⟨Nat.zero_le _, Nat.zero_le _⟩ (fun M9 h9 => ?_)
    obtain ⟨M2, rfl, hF2, hk2⟩ := h9
    have h0 : bset M2 1 S 0 = some (cO 6 [.ref 1, .ref 23, .ref 45, .ref 145, .ref 162]) := hF2.1
    refine r_aload0 (pc := 93) dX7_swap_93 ?_
    refine r_getf (pc := 94) fl_X7_10 dX7_swap_94 h0 rfl ?_
    refine r_callV0i (pc := 97) lk_X7_122 dX7_swap_97 (bget0 rfl) (s_errorOfAll hI hZ) (by decide) (Nat.le_of_ble_eq_true rfl) ⟨Nat.zero_le _, Nat.zero_le _⟩ ?_
    refine r_istore3 (pc := 100) dX7_swap_100 rfl ?_
    refine r_aload0 (pc := 101) dX7_swap_101 ?_
    refine r_getf (pc := 102) fl_X7_10 dX7_swap_102 h0 rfl ?_
    refine r_iload1 (pc := 105) dX7_swap_105 ?_
    refine r_iload2 (pc := 106) dX7_swap_106 ?_
    refine r_callV2w (pc := 107) lk_X7_250 dX7_swap_107 (bget0 rfl) (s_swapPlaces hI hZ c1 e1)  (by decide) (Nat.le_of_ble_eq_true rfl) ⟨Nat.zero_le _, Nat.zero_le _⟩ (fun M9 h9 => ?_)
    obtain ⟨S2, hI2, rfl⟩ := h9
    have h0 : bset M2 1 S2 0 = some (cO 6 [.ref 1, .ref 23, .ref 45, .ref 145, .ref 162]) := (FACE.setB hF2 hI2).1
    refine r_iload3 (pc := 110) dX7_swap_110 ?_
    refine r_aload0 (pc := 111) dX7_swap_111 ?_
    refine r_getf (pc := 112) fl_X7_10 dX7_swap_112 h0 rfl ?_
    refine r_callV0i (pc := 115) lk_X7_122 dX7_swap_115 (bget0 rfl) (s_errorOfAll hI2 (swapZ_ok hZ c1 e1)) (by decide) (Nat.le_of_ble_eq_true rfl) ⟨Nat.zero_le _, Nat.zero_le _⟩ ?_
    first | refine n_isubI (pc := 118) dX7_swap_118 ?_ | refine z_isub (pc := 118) dX7_swap_118 ?_ | refine r_isub (pc := 118) dX7_swap_118 ?_
    exact p_ireturn (pc := 119) true rfl rfl rfl dX7_swap_119 (Nat.zero_le _) (Nat.zero_le _) (Or.inl rfl) (tFo ea (FACE.setB hF2 hI2) (fun i hi => (bfr hi).trans (hk2 i hi)))
  · rw [if_pos h3] at ea
    exact G_throw (pc := 37) 23 rfl rfl th_44 rfl dX7_swap_37 dX7_swap_40 dX7_swap_41 dX7_swap_43 dX7_swap_46 (by decide) (by decide) (by decide) (tFx 1 ea hF rfl)
set_option maxRecDepth 20000 in
theorem s7_flip (hF : FACE M w) (hO : WOK w) {x y : Int32} : SpecX mX7_flip 8 1 6 [.ref 0, .int x, .int y] M (tFc [xIOB, xISE] M (A_flip x y w)) := by
  have hZ := hO.z
  have hd := hZ.dims
  have hn120 := hO.2.2.2.1
  have hk14 := hO.2.1.1
  obtain ⟨M, S, rfl, hI⟩ := hF.board
  have h0 : (bset M 1 S) 0 = some (cO 6 [.ref 1, .ref 23, .ref 45, .ref 145, .ref 162]) := hF.1
  have hX : TXT (bset M 1 S) 162 (wn w) (wf w) := hF.2.2.2.2.2
  refine SpecX_of [some (.ref 0), some (.int x), some (.int y), none, none] (by decide) (Nat.le_of_ble_eq_true rfl) rfl ?_
  obtain ⟨o, ho, hs⟩ := hF.2.2.2.1
  have ea : A_flip x y w = if inQ (wz w) x y then (match canF (wz w) (sqn (wz w) x y) with
    | some p => rO (iI (fgZ (wz w) p.1 p.2)) (wAct w (flipZ (wz w) p.1 p.2))
    | none => rN 2 w) else rN 1 w := rfl
  refine r_aload0 (pc := 0) dX7_flip_0 ?_
  refine r_getf (pc := 1) fl_X7_10 dX7_flip_1 h0 rfl ?_
  refine r_iload1 (pc := 4) dX7_flip_4 ?_
  refine r_iload2 (pc := 5) dX7_flip_5 ?_
  refine r_callV2i (pc := 6) lk_X7_147 dX7_flip_6 (bget0 rfl) (s_hasSquare hI hZ) (by decide) (Nat.le_of_ble_eq_true rfl) ⟨Nat.zero_le _, Nat.zero_le _⟩ ?_
  refine b_if_ne (pc := 9) 22 (by decide) dX7_flip_9 (fun h1 => ?_) (fun h1 => ?_)
  · have hq : inQ (wz w) x y = true := h1
    rw [hq] at ea
    have ea : A_flip x y w = (match canF (wz w) (sqn (wz w) x y) with
      | some p => rO (iI (fgZ (wz w) p.1 p.2)) (wAct w (flipZ (wz w) p.1 p.2))
      | none => rN 2 w) := ea
    rw [Bool.and_eq_true] at h1
    obtain ⟨c1, c2⟩ := inR_nm h1.1 (by omega)
    obtain ⟨e1, e2⟩ := inR_nm h1.2 (by omega)
    unfold sqn at ea
    generalize nm x = n at *
    generalize nm y = m at *
    subst c2 e2
    have hsq : m * zc (wz w) + n < zq (wz w) := by have := sq_in c1 e1; rw [Nat.mul_comm]; exact this
    have no : ∀ v, nc v = true → canF (wz w) (m * zc (wz w) + n) = none →
      G mX7_flip 8 (.inl true) 1 6 (tFc [xIOB, xISE] (bset M 1 S) (A_flip (nI n) (nI m) w)) none 0 0 55 [some (.ref 0), some (.int (nI n)), some (.int (nI m)), v, none] [] (bset M 1 S)
      := by
      intro v _ h9
      rw [h9] at ea
      exact G_throwW (pc := 55) 25 rfl rfl th_55 rfl dX7_flip_55 dX7_flip_58 dX7_flip_59 dX7_flip_62 dX7_flip_65 (by decide) (by decide) (by decide) (tFx 1 ea hF rfl)
    refine r_aload0 (pc := 22) dX7_flip_22 ?_
    refine r_getf (pc := 23) fl_X7_10 dX7_flip_23 h0 rfl ?_
    refine r_aload0 (pc := 26) dX7_flip_26 ?_
    refine r_getf (pc := 27) fl_X7_10 dX7_flip_27 h0 rfl ?_
    refine r_iload1 (pc := 30) dX7_flip_30 ?_
    refine r_iload2 (pc := 31) dX7_flip_31 ?_
    refine r_callV2i (pc := 32) lk_X7_156 dX7_flip_32 (bget0 rfl) (s_squareAt hI) (by decide) (Nat.le_of_ble_eq_true rfl) ⟨Nat.zero_le _, Nat.zero_le _⟩ ?_
    generalize m * zc (wz w) + n = s at *
    refine r_callV1i (pc := 35) lk_X7_253 dX7_flip_35 (bget0 rfl) (s_blockAt hI hZ (by omega)) (by decide) (Nat.le_of_ble_eq_true rfl) ⟨Nat.zero_le _, Nat.zero_le _⟩ ?_
    cases hb9 : blk (wz w) s with
    | none =>
      refine r_istore3 (pc := 38) dX7_flip_38 rfl ?_
      refine r_iload3 (pc := 39) dX7_flip_39 ?_
      refine r_iconst_m1 (pc := 40) dX7_flip_40 ?_
      refine r_icmp_eq (pc := 41) 55 (by decide) dX7_flip_41 (fun _ => no _ rfl (by unfold canF; rw [hb9])) (fun h9 => absurd rfl h9)
    | some k =>
      obtain ⟨b1, b2, b3⟩ := (blk_some hZ).mp hb9
      refine r_istore3 (pc := 38) dX7_flip_38 rfl ?_
      refine r_iload3 (pc := 39) dX7_flip_39 ?_
      refine r_iconst_m1 (pc := 40) dX7_flip_40 ?_
      refine r_icmp_eq (pc := 41) 55 (by decide) dX7_flip_41 (fun h9 => absurd h9 (nI_ne_m1 (by omega))) (fun _ => ?_)
      rw [show oI (some k) = nI k from rfl]
      refine r_aload0 (pc := 44) dX7_flip_44 ?_
      refine r_getf (pc := 45) fl_X7_10 dX7_flip_45 h0 rfl ?_
      refine r_iload3 (pc := 48) dX7_flip_48 ?_
      refine r_callV1i (pc := 49) lk_X7_256 dX7_flip_49 (bget0 rfl) (s_isFreeBlock hI hZ b1) (by decide) (Nat.le_of_ble_eq_true rfl) ⟨Nat.zero_le _, Nat.zero_le _⟩ ?_
      refine b_if_ne (pc := 52) 66 (by decide) dX7_flip_52 (fun h9 => ?_) (fun h9 => ?_)
      · cases hp : part (wz w) k with
        | none => rw [hp] at h9; cases h9
        | some l =>
          rw [hp] at h9
          have h9 : (decide (zH (wz w) k = 0) && decide (zH (wz w) l = 0)) = true := h9
          have hc : canF (wz w) s = some (k, l) := by
            unfold canF
            rw [hb9]
            show (match part (wz w) k with | none => none | some l => if zH (wz w) k = 0 ∧ zH (wz w) l = 0 then some (k, l) else none) = _
            rw [hp]
            exact if_pos (by simpa using h9)
          rw [hc] at ea
          have ea : A_flip (nI n) (nI m) w = rO (iI (fgZ (wz w) k l)) (wAct w (flipZ (wz w) k l)) := ea
          rw [← flip_gain hZ b1 hp] at ea
          refine r_aload0 (pc := 66) dX7_flip_66 ?_
          refine r_getf (pc := 67) fl_X7_22 dX7_flip_67 h0 rfl ?_
          refine r_aload0 (pc := 70) dX7_flip_70 ?_
          refine r_getf (pc := 71) fl_X7_10 dX7_flip_71 h0 rfl ?_
          refine r_getf (pc := 74) fl_X7_101 dX7_flip_74 (bget0 rfl) rfl ?_
          refine r_callV1w (pc := 77) lk_X7_222 dX7_flip_77 ho.2.2.1 (s7_rem hF hI hZ)  (by decide) (Nat.le_of_ble_eq_true rfl) ⟨Nat.zero_le _, Nat.zero_le _⟩ (fun M9 h9 => ?_)
          obtain ⟨M2, rfl, hF2, hk2⟩ := h9
          have h0 : bset M2 1 S 0 = some (cO 6 [.ref 1, .ref 23, .ref 45, .ref 145, .ref 162]) := hF2.1
          refine r_aload0 (pc := 80) dX7_flip_80 ?_
          refine r_getf (pc := 81) fl_X7_10 dX7_flip_81 h0 rfl ?_
          refine r_callV0i (pc := 84) lk_X7_122 dX7_flip_84 (bget0 rfl) (s_errorOfAll hI hZ) (by decide) (Nat.le_of_ble_eq_true rfl) ⟨Nat.zero_le _, Nat.zero_le _⟩ ?_
          refine r_istore4 (pc := 87) dX7_flip_87 rfl ?_
          refine r_aload0 (pc := 89) dX7_flip_89 ?_
          refine r_getf (pc := 90) fl_X7_10 dX7_flip_90 h0 rfl ?_
          refine r_iload3 (pc := 93) dX7_flip_93 ?_
          refine r_callV1w (pc := 94) lk_X7_261 dX7_flip_94 (bget0 rfl) (s_flipBlock hI hZ b1 hp)  (by decide) (Nat.le_of_ble_eq_true rfl) ⟨Nat.zero_le _, Nat.zero_le _⟩ (fun M9 h9 => ?_)
          obtain ⟨S2, hI2, rfl⟩ := h9
          have h0 : bset M2 1 S2 0 = some (cO 6 [.ref 1, .ref 23, .ref 45, .ref 145, .ref 162]) := (FACE.setB hF2 hI2).1
          refine r_iload4 (pc := 97) dX7_flip_97 ?_
          refine r_aload0 (pc := 99) dX7_flip_99 ?_
          refine r_getf (pc := 100) fl_X7_10 dX7_flip_100 h0 rfl ?_
          refine r_callV0i (pc := 103) lk_X7_122 dX7_flip_103 (bget0 rfl) (s_errorOfAll hI2 (flipZ_ok hZ b1 hp)) (by decide) (Nat.le_of_ble_eq_true rfl) ⟨Nat.zero_le _, Nat.zero_le _⟩ ?_
          first | refine n_isubI (pc := 106) dX7_flip_106 ?_ | refine z_isub (pc := 106) dX7_flip_106 ?_ | refine r_isub (pc := 106) dX7_flip_106 ?_
          exact p_ireturn (pc := 107) true rfl rfl rfl dX7_flip_107 (Nat.zero_le _) (Nat.zero_le _) (Or.inl rfl) (tFo ea (FACE.setB hF2 hI2) (fun i hi => (bfr hi).trans (hk2 i hi)))
      · refine no _ rfl ?_
        unfold canF
        rw [hb9]
        show (match part (wz w) k with | none => none | some l => if zH (wz w) k = 0 ∧ zH (wz w) l = 0 then some (k, l) else none) = none
        cases hp : part (wz w) k with
        | none => rfl
        | some l =>
          rw [hp] at h9
          have h9 : (decide (zH (wz w) k = 0) && decide (zH (wz w) l = 0)) = false := h9
          exact if_neg (by simpa using h9)
  · have hq : inQ (wz w) x y = false := h1
    exact G_throw (pc := 12) 14 rfl rfl th_151 rfl dX7_flip_12 dX7_flip_15 dX7_flip_16 dX7_flip_18 dX7_flip_21 (by decide) (by decide) (by decide) (tFx 0 (by rw [ea, hq]; rfl) hF rfl)
set_option maxRecDepth 20000 in
theorem s7_hold (hF : FACE M w) (hO : WOK w) {x : Int32} {v : Bool} : SpecX mX7_hold 8 1 6 [.ref 0, .int x, .int (bI v)] M (tFc [xIOB] M (A_hold x v w)) := by
  have hZ := hO.z
  have hd := hZ.dims
  have hn120 := hO.2.2.2.1
  have hk14 := hO.2.1.1
  obtain ⟨M, S, rfl, hI⟩ := hF.board
  have h0 : (bset M 1 S) 0 = some (cO 6 [.ref 1, .ref 23, .ref 45, .ref 145, .ref 162]) := hF.1
  have hX : TXT (bset M 1 S) 162 (wn w) (wf w) := hF.2.2.2.2.2
  refine SpecX_of [some (.ref 0), some (.int x), some (.int (bI v))] (by decide) (Nat.le_of_ble_eq_true rfl) rfl ?_
  obtain ⟨o, ho, hs⟩ := hF.2.2.2.1
  have ea : A_hold x v w = if inR x (zt (wz w)) then rO (nI (zM (zH (holdZ (wz w) (nm x) (if v then 1 else 0))) (zt (wz w)))) (wAct w (holdZ (wz w) (nm x) (if v then 1 else 0))) else rN 1 w := rfl
  refine r_aload0 (pc := 0) dX7_hold_0 ?_
  refine r_getf (pc := 1) fl_X7_10 dX7_hold_1 h0 rfl ?_
  refine r_iload1 (pc := 4) dX7_hold_4 ?_
  refine r_callV1i (pc := 5) lk_X7_181 dX7_hold_5 (bget0 rfl) (s_hasPlace hI hZ) (by decide) (Nat.le_of_ble_eq_true rfl) ⟨Nat.zero_le _, Nat.zero_le _⟩ ?_
  refine b_if_ne (pc := 8) 21 (by decide) dX7_hold_8 (fun h1 => ?_) (fun h1 => ?_)
  · rw [h1] at ea
    have ea : A_hold x v w = rO (nI (zM (zH (holdZ (wz w) (nm x) (if v then 1 else 0))) (zt (wz w)))) (wAct w (holdZ (wz w) (nm x) (if v then 1 else 0))) := ea
    obtain ⟨c1, c2⟩ := inR_nm h1 (by omega)
    generalize nm x = k at *
    subst c2
    refine r_aload0 (pc := 21) dX7_hold_21 ?_
    refine r_getf (pc := 22) fl_X7_22 dX7_hold_22 h0 rfl ?_
    refine r_aload0 (pc := 25) dX7_hold_25 ?_
    refine r_getf (pc := 26) fl_X7_10 dX7_hold_26 h0 rfl ?_
    refine r_getf (pc := 29) fl_X7_101 dX7_hold_29 (bget0 rfl) rfl ?_
    refine r_callV1w (pc := 32) lk_X7_222 dX7_hold_32 ho.2.2.1 (s7_rem hF hI hZ)  (by decide) (Nat.le_of_ble_eq_true rfl) ⟨Nat.zero_le _, Nat.zero_le _⟩ (fun M9 h9 => ?_)
    obtain ⟨M2, rfl, hF2, hk2⟩ := h9
    have h0 : bset M2 1 S 0 = some (cO 6 [.ref 1, .ref 23, .ref 45, .ref 145, .ref 162]) := hF2.1
    have fin : ∀ u : Nat, u = (if v then 1 else 0) →
      G mX7_hold 8 (.inl true) 1 6 (tFc [xIOB] (bset M 1 S) (A_hold (nI k) v w)) none 0 0 55 [some (.ref 0), some (.int (nI k)), some (.int (bI v))] [.int (nI u), .int (nI k), .ref (1 + 7)] (bset M2 1 S)
      := by
      intro u hu
      rw [← hu] at ea
      have hu1 : u ≤ 1 := by rw [hu]; split <;> omega
      have hI2 : InvB (ia S 7 (upd (S.2 7) k (nI u))) (holdZ (wz w) k u) := hI.setH (upd_ups (fun _ h => hI.H h) rfl)
      refine r_callS3v (pc := 55) lk_X7_231 dX7_hold_55 (s_putB (j := 7) (by decide) rfl (fun _ => rfl) (by omega) (by decide)) (by decide) (Nat.le_of_ble_eq_true rfl) ⟨Nat.zero_le _, Nat.zero_le _⟩ ?_
      have h0 : bset M2 1 (ia S 7 (upd (S.2 7) k (nI u))) 0 = some (cO 6 [.ref 1, .ref 23, .ref 45, .ref 145, .ref 162]) := (FACE.setB hF2 hI2).1
      refine r_aload0 (pc := 58) dX7_hold_58 ?_
      refine r_getf (pc := 59) fl_X7_10 dX7_hold_59 h0 rfl ?_
      refine r_aload0 (pc := 62) dX7_hold_62 ?_
      refine r_getf (pc := 63) fl_X7_10 dX7_hold_63 h0 rfl ?_
      refine r_getf (pc := 66) fl_X7_101 dX7_hold_66 (bget0 rfl) rfl ?_
      refine r_getf (pc := 69) fl_X7_136 dX7_hold_69 (bget rfl) rfl ?_
      refine r_callV1i (pc := 72) lk_X7_132 dX7_hold_72 (bget0 rfl) (s_markedH hI2 (holdZ_ok hZ k hu1)) (by decide) (Nat.le_of_ble_eq_true rfl) ⟨Nat.zero_le _, Nat.zero_le _⟩ ?_
      exact p_ireturn (pc := 75) true rfl rfl rfl dX7_hold_75 (Nat.zero_le _) (Nat.zero_le _) (Or.inl rfl) (tFo ea (FACE.setB hF2 hI2) (fun i hi => (bfr hi).trans (hk2 i hi)))
    refine r_aload0 (pc := 35) dX7_hold_35 ?_
    refine r_getf (pc := 36) fl_X7_10 dX7_hold_36 h0 rfl ?_
    refine r_getf (pc := 39) fl_X7_101 dX7_hold_39 (bget0 rfl) rfl ?_
    refine r_getf (pc := 42) fl_X7_136 dX7_hold_42 (bget rfl) rfl ?_
    refine r_iload1 (pc := 45) dX7_hold_45 ?_
    refine r_iload2 (pc := 46) dX7_hold_46 ?_
    refine b_if_eq (pc := 47) 54 (by decide) dX7_hold_47 (fun h9 => ?_) (fun h9 => ?_)
    · refine n_iconst_0 (pc := 54) dX7_hold_54 ?_
      exact fin 0 (by rw [h9]; rfl)
    · refine n_iconst_1 (pc := 50) dX7_hold_50 ?_
      refine r_goto (pc := 51) 55 (by decide) dX7_hold_51 ?_
      exact fin 1 (by rw [h9]; rfl)
  · exact G_throw (pc := 11) 16 rfl rfl th_151 rfl dX7_hold_11 dX7_hold_14 dX7_hold_15 dX7_hold_17 dX7_hold_20 (by decide) (by decide) (by decide) (tFx 0 (by rw [ea, h1]; rfl) hF rfl)
set_option maxRecDepth 20000 in
theorem s7_lay (hF : FACE M w) (hO : WOK w) : SpecP mX7_lay 8 0 0 [.ref 0] M (tFc [] M (A_lay w)) := by
  have hZ := hO.z
  have hd := hZ.dims
  have hn120 := hO.2.2.2.1
  have hk14 := hO.2.1.1
  obtain ⟨M, S, rfl, hI⟩ := hF.board
  have h0 : (bset M 1 S) 0 = some (cO 6 [.ref 1, .ref 23, .ref 45, .ref 145, .ref 162]) := hF.1
  have hX : TXT (bset M 1 S) 162 (wn w) (wf w) := hF.2.2.2.2.2
  refine Spec_of [some (.ref 0), none] (by decide) (Nat.le_of_ble_eq_true rfl) rfl ?_
  obtain ⟨o, ho, hs⟩ := hF.2.2.2.1
  refine r_aload0 (pc := 0) dX7_lay_0 ?_
  refine r_getf (pc := 1) fl_X7_22 dX7_lay_1 h0 rfl ?_
  refine r_aload0 (pc := 4) dX7_lay_4 ?_
  refine r_getf (pc := 5) fl_X7_10 dX7_lay_5 h0 rfl ?_
  refine r_getf (pc := 8) fl_X7_101 dX7_lay_8 (bget0 rfl) rfl ?_
  refine r_callV1w (pc := 11) lk_X7_222 dX7_lay_11 ho.2.2.1 (s7_rem hF hI hZ)  (by decide) (Nat.le_of_ble_eq_true rfl) ⟨Nat.zero_le _, Nat.zero_le _⟩ (fun M9 h9 => ?_)
  obtain ⟨M2, rfl, hF2, hk2⟩ := h9
  have h0 : bset M2 1 S 0 = some (cO 6 [.ref 1, .ref 23, .ref 45, .ref 145, .ref 162]) := hF2.1
  refine r_aload0 (pc := 14) dX7_lay_14 ?_
  refine r_getf (pc := 15) fl_X7_10 dX7_lay_15 h0 rfl ?_
  refine r_callV0i (pc := 18) lk_X7_122 dX7_lay_18 (bget0 rfl) (s_errorOfAll hI hZ) (by decide) (Nat.le_of_ble_eq_true rfl) ⟨Nat.zero_le _, Nat.zero_le _⟩ ?_
  refine r_istore1 (pc := 21) dX7_lay_21 rfl ?_
  refine r_aload0 (pc := 22) dX7_lay_22 ?_
  refine r_getf (pc := 23) fl_X7_10 dX7_lay_23 h0 rfl ?_
  refine r_callV0w (pc := 26) lk_X7_264 dX7_lay_26 (bget0 rfl) (s_layAnew hI hZ)  (by decide) (Nat.le_of_ble_eq_true rfl) ⟨Nat.zero_le _, Nat.zero_le _⟩ (fun M9 h9 => ?_)
  obtain ⟨S2, hI2, rfl⟩ := h9
  have h0 : bset M2 1 S2 0 = some (cO 6 [.ref 1, .ref 23, .ref 45, .ref 145, .ref 162]) := (FACE.setB hF2 hI2).1
  refine r_iload1 (pc := 29) dX7_lay_29 ?_
  refine r_aload0 (pc := 30) dX7_lay_30 ?_
  refine r_getf (pc := 31) fl_X7_10 dX7_lay_31 h0 rfl ?_
  refine r_callV0i (pc := 34) lk_X7_122 dX7_lay_34 (bget0 rfl) (s_errorOfAll hI2 (layZ_ok hZ)) (by decide) (Nat.le_of_ble_eq_true rfl) ⟨Nat.zero_le _, Nat.zero_le _⟩ ?_
  first | refine n_isubI (pc := 37) dX7_lay_37 ?_ | refine z_isub (pc := 37) dX7_lay_37 ?_ | refine r_isub (pc := 37) dX7_lay_37 ?_
  exact p_ireturn (pc := 38) false rfl rfl rfl dX7_lay_38 (Nat.zero_le _) (Nat.zero_le _) (Or.inl rfl) (tFo rfl (FACE.setB hF2 hI2) (fun i hi => (bfr hi).trans (hk2 i hi)))
set_option maxRecDepth 20000 in
theorem s7_improve (hF : FACE M w) (hO : WOK w) {x : Int32} : SpecX mX7_improve 8 1 6 [.ref 0, .int x] M (tFc [xIAE] M (A_improve x w)) := by
  have hZ := hO.z
  have hd := hZ.dims
  have hn120 := hO.2.2.2.1
  have hk14 := hO.2.1.1
  obtain ⟨M, S, rfl, hI⟩ := hF.board
  have h0 : (bset M 1 S) 0 = some (cO 6 [.ref 1, .ref 23, .ref 45, .ref 145, .ref 162]) := hF.1
  have hX : TXT (bset M 1 S) 162 (wn w) (wf w) := hF.2.2.2.2.2
  refine SpecX_of [some (.ref 0), some (.int x), none] (by decide) (Nat.le_of_ble_eq_true rfl) rfl ?_
  obtain ⟨o, ho, hs⟩ := hF.2.2.2.1
  have ea : A_improve x w = if inB x 1 20 then rO (iI (erAll (wz w) - erAll (impZ (nm x) (wz w)))) (wAct w (impZ (nm x) (wz w))) else rN 1 w := rfl
  refine r_iload1 (pc := 0) dX7_improve_0 ?_
  refine r_callS1i (pc := 1) lk_X7_267 dX7_improve_1 s_isCount (by decide) (Nat.le_of_ble_eq_true rfl) ⟨Nat.zero_le _, Nat.zero_le _⟩ ?_
  refine b_if_ne (pc := 4) 18 (by decide) dX7_improve_4 (fun h1 => ?_) (fun h1 => ?_)
  · rw [h1] at ea
    have ea : A_improve x w = rO (iI (erAll (wz w) - erAll (impZ (nm x) (wz w)))) (wAct w (impZ (nm x) (wz w))) := ea
    obtain ⟨c1, c2, c3⟩ := inB_ex h1 (by decide)
    generalize nm x = k at *
    subst c3
    refine r_aload0 (pc := 18) dX7_improve_18 ?_
    refine r_getf (pc := 19) fl_X7_22 dX7_improve_19 h0 rfl ?_
    refine r_aload0 (pc := 22) dX7_improve_22 ?_
    refine r_getf (pc := 23) fl_X7_10 dX7_improve_23 h0 rfl ?_
    refine r_getf (pc := 26) fl_X7_101 dX7_improve_26 (bget0 rfl) rfl ?_
    refine r_callV1w (pc := 29) lk_X7_222 dX7_improve_29 ho.2.2.1 (s7_rem hF hI hZ)  (by decide) (Nat.le_of_ble_eq_true rfl) ⟨Nat.zero_le _, Nat.zero_le _⟩ (fun M9 h9 => ?_)
    obtain ⟨M2, rfl, hF2, hk2⟩ := h9
    have h0 : bset M2 1 S 0 = some (cO 6 [.ref 1, .ref 23, .ref 45, .ref 145, .ref 162]) := hF2.1
    refine r_aload0 (pc := 32) dX7_improve_32 ?_
    refine r_getf (pc := 33) fl_X7_10 dX7_improve_33 h0 rfl ?_
    refine r_callV0i (pc := 36) lk_X7_122 dX7_improve_36 (bget0 rfl) (s_errorOfAll hI hZ) (by decide) (Nat.le_of_ble_eq_true rfl) ⟨Nat.zero_le _, Nat.zero_le _⟩ ?_
    refine r_istore2 (pc := 39) dX7_improve_39 rfl ?_
    refine r_aload0 (pc := 40) dX7_improve_40 ?_
    refine r_getf (pc := 41) fl_X7_10 dX7_improve_41 h0 rfl ?_
    refine r_iload1 (pc := 44) dX7_improve_44 ?_
    refine r_callV1w (pc := 45) lk_X7_272 dX7_improve_45 (bget0 rfl) (s_doBestChanges hI hZ (m := k) (by omega))  (by decide) (Nat.le_of_ble_eq_true rfl) ⟨Nat.zero_le _, Nat.zero_le _⟩ (fun M9 h9 => ?_)
    obtain ⟨S2, hI2, rfl⟩ := h9
    have h0 : bset M2 1 S2 0 = some (cO 6 [.ref 1, .ref 23, .ref 45, .ref 145, .ref 162]) := (FACE.setB hF2 hI2).1
    refine r_iload2 (pc := 48) dX7_improve_48 ?_
    refine r_aload0 (pc := 49) dX7_improve_49 ?_
    refine r_getf (pc := 50) fl_X7_10 dX7_improve_50 h0 rfl ?_
    refine r_callV0i (pc := 53) lk_X7_122 dX7_improve_53 (bget0 rfl) (s_errorOfAll hI2 (impZ_ok k hZ)) (by decide) (Nat.le_of_ble_eq_true rfl) ⟨Nat.zero_le _, Nat.zero_le _⟩ ?_
    first | refine n_isubI (pc := 56) dX7_improve_56 ?_ | refine z_isub (pc := 56) dX7_improve_56 ?_ | refine r_isub (pc := 56) dX7_improve_56 ?_
    exact p_ireturn (pc := 57) true rfl rfl rfl dX7_improve_57 (Nat.zero_le _) (Nat.zero_le _) (Or.inl rfl) (tFo ea (FACE.setB hF2 hI2) (fun i hi => (bfr hi).trans (hk2 i hi)))
  · exact G_throwW (pc := 7) 26 rfl rfl th_44 rfl dX7_improve_7 dX7_improve_10 dX7_improve_11 dX7_improve_14 dX7_improve_17 (by decide) (by decide) (by decide) (tFx 0 (by rw [ea, h1]; rfl) hF rfl)
set_option maxRecDepth 20000 in
theorem s7_undo (hF : FACE M w) (hO : WOK w) : SpecX mX7_undo 8 1 6 [.ref 0] M (tFc [xISE] M (A_undo w)) := by
  have hZ := hO.z
  have hd := hZ.dims
  have hn120 := hO.2.2.2.1
  have hk14 := hO.2.1.1
  obtain ⟨M, S, rfl, hI⟩ := hF.board
  have h0 : (bset M 1 S) 0 = some (cO 6 [.ref 1, .ref 23, .ref 45, .ref 145, .ref 162]) := hF.1
  have hX : TXT (bset M 1 S) 162 (wn w) (wf w) := hF.2.2.2.2.2
  refine SpecX_of [some (.ref 0)] (by decide) (Nat.le_of_ble_eq_true rfl) rfl ?_
  obtain ⟨o, ho, hs⟩ := hF.2.2.2.1
  have ea : A_undo w = if wk w = 0 then rN 1 w else rO (nI (wk w - 1)) (wg w (wk w - 1), (wk w - 1, wg w), w.2.2) := rfl
  refine r_aload0 (pc := 0) dX7_undo_0 ?_
  refine r_getf (pc := 1) fl_X7_22 dX7_undo_1 h0 rfl ?_
  refine r_callV0i (pc := 4) lk_X7_275 dX7_undo_4 ho.2.2.1 (s_mIsEmpty ho) (by decide) (Nat.le_of_ble_eq_true rfl) ⟨Nat.zero_le _, Nat.zero_le _⟩ ?_
  refine b_if_eq (pc := 7) 21 (by decide) dX7_undo_7 (fun h9 => ?_) (fun h9 => ?_)
  · have h9 : ¬ wk w = 0 := of_decide_eq_false h9
    rw [if_neg h9] at ea
    have ho : MEM (bset M 1 S) 45 o (wk w) := ho
    have hs : ∀ i, i < 14 → ∃ T, sAt (bset M 1 S) (45 + 2 + 7 * i) T ∧ ∀ j, j < wk w → i = (o + j) % 14 → InvS T (wg w j) := hs
    have hF2 := hF.pop ho hs (k := wk w - 1) (by omega)
    have hb1 : bset (mmset (bset M 1 S) 45 o (wk w - 1)) 1 S = mmset (bset M 1 S) 45 o (wk w - 1) := bset_ext (M := bset M 1 S) (fun i a b => mm_out (by omega)) bset_bset
    have hk2 : ∀ i, 164 ≤ i → mmset (bset M 1 S) 45 o (wk w - 1) i = bset M 1 S i := fun i hi => mm_out (by omega)
    have ho2 : MEM (mmset (bset M 1 S) 45 o (wk w - 1)) 45 o (wk w - 1) := ho.set ho.1 (by omega)
    have ht := s_takeLast ho (by omega)
    obtain ⟨T, t1, t2⟩ := hs ((o + (wk w - 1)) % 14) (Nat.mod_lt _ (by decide))
    have hT := t2 (wk w - 1) (by omega) rfl
    have t3 : sAt (mmset (bset M 1 S) 45 o (wk w - 1)) (45 + 2 + 7 * ((o + (wk w - 1)) % 14)) T := t1.ext (fun i a b => mm_out (by omega))
    refine r_aload0 (pc := 21) dX7_undo_21 ?_
    refine r_getf (pc := 22) fl_X7_10 dX7_undo_22 h0 rfl ?_
    refine r_aload0 (pc := 25) dX7_undo_25 ?_
    refine r_getf (pc := 26) fl_X7_22 dX7_undo_26 h0 rfl ?_
    refine r_callV0i (pc := 29) lk_X7_280 dX7_undo_29 ho.2.2.1 ht (by decide) (Nat.le_of_ble_eq_true rfl) ⟨Nat.zero_le _, Nat.zero_le _⟩ ?_
    generalize hM2 : mmset (bset M 1 S) 45 o (wk w - 1) = M2 at *
    have htf := s_takeFrom (M := M2) (b := 1) (S := S) (a := 45 + 2 + 7 * ((o + (wk w - 1)) % 14)) (T := T) (z := wg w (wk w - 1)) (by omega) t3 (by rw [hb1]; exact t3) hT (hO.2.1.2 _ (by omega)).1
    rw [hb1] at htf
    have h0 : M2 0 = some (cO 6 [.ref 1, .ref 23, .ref 45, .ref 145, .ref 162]) := hF2.1
    have hb2 : M2 1 = some (cO 0 [.ref (1 + 1), .int (S.1 0), .int (S.1 1), .int (S.1 2), .int (S.1 3), .ref (1 + 8), .ref (1 + 9), .ref (1 + 10), .ref (1 + 11), .ref (1 + 12), .ref (1 + 13), .ref (1 + 20), .ref (1 + 21)]) := by rw [← hb1]; exact bget0 rfl
    refine r_callV1w (pc := 32) lk_X7_284 dX7_undo_32 hb2 htf  (by decide) (Nat.le_of_ble_eq_true rfl) ⟨Nat.zero_le _, Nat.zero_le _⟩ (fun M9 h9 => ?_)
    obtain ⟨S2, hI2, rfl⟩ := h9
    rw [← hb1] at hF2
    have hF3 := FACE.setB hF2 hI2
    have h0 : bset M2 1 S2 0 = some (cO 6 [.ref 1, .ref 23, .ref 45, .ref 145, .ref 162]) := hF3.1
    have h45 : bset M2 1 S2 45 = some (cO 1 [.ref (45 + 1), .int (nI o), .int (nI (wk w - 1))]) := (bset_out (by decide)).trans ho2.2.2.1
    refine r_aload0 (pc := 35) dX7_undo_35 ?_
    refine r_getf (pc := 36) fl_X7_22 dX7_undo_36 h0 rfl ?_
    refine r_getf (pc := 39) fl_X7_287 dX7_undo_39 h45 rfl ?_
    exact p_ireturn (pc := 42) true rfl rfl rfl dX7_undo_42 (Nat.zero_le _) (Nat.zero_le _) (Or.inl rfl) (tFo ea hF3 (fun i hi => (bset_out (by omega)).trans (hk2 i hi)))
  · have h9 : wk w = 0 := of_decide_eq_true h9
    rw [if_pos h9] at ea
    exact G_throwW (pc := 10) 27 rfl rfl th_55 rfl dX7_undo_10 dX7_undo_13 dX7_undo_14 dX7_undo_17 dX7_undo_20 (by decide) (by decide) (by decide) (tFx 0 ea hF rfl)
end CACT

section CREST
variable {M : Mem} {w : WS}
theorem bkeep {N M : Mem} {S : BS} (h : ∀ i, 1 ≤ i → i < 23 → N i = bset M 1 S i) : bset N 1 S = N := bset_ext (M := bset M 1 S) (fun i a b => h i a (by omega)) bset_bset
theorem s7_take {S : BS} (hF : FACE (bset M 1 S) w) (hI : InvB S (wz w)) (hZ : ZOK (wz w)) : SpecP mX0_takeFrom 3 0 0 [.ref 23, .ref (1 + 1)] (bset M 1 S) (tB none (bset M 1 S) 23 (wz w)) := by
  obtain ⟨S0, h⟩ := hF.2.2.1
  have q := s_takeFrom (M := bset M 1 S) (b := 23) (S := S0) (a := 1 + 1) (T := stOf S) (z := wz w) (by decide) bst_at (by rw [h]; exact bst_at) hI.st hZ
  rw [h] at q
  exact q
theorem FACE.trial (hF : FACE M w) : ∃ vs, M 23 = some (cO 0 vs) := by
  obtain ⟨S0, h⟩ := hF.2.2.1
  exact ⟨_, by rw [← h]; exact bget0 rfl⟩
theorem i32_cancel (a c : Int32) : a + c - a = c := by
  apply Int32.toBitVec_inj.mp
  show a.toBitVec + c.toBitVec - a.toBitVec = c.toBitVec
  apply BitVec.eq_of_toNat_eq
  rw [BitVec.toNat_sub, BitVec.toNat_add]
  have h1 := a.toBitVec.isLt
  have h2 := c.toBitVec.isLt
  omega
theorem s7_errB {S S2 : BS} {z : ZS} (hI : InvB S z) (hZ : ZOK z) : Spec mX0_errorOfAll 4 0 0 [.ref 1] (bset (bset M 1 S) 23 S2) (some (.int (iI (erAll z)))) (bset (bset M 1 S) 23 S2) := by
  have q := s_errorOfAll (M := bset M 23 S2) (b := 1) hI hZ
  rw [← bset_comm (M := M) (a := 1) (b := 23) (S := S) (S' := S2) (by decide)] at q
  exact q
theorem tfr {S S2 : BS} {i : Nat} (h : 164 ≤ i) : bset (bset M 1 S) 23 S2 i = bset M 1 S i := bset_out (by omega)

set_option maxRecDepth 20000 in
theorem s7_gain (hF : FACE M w) (hO : WOK w) {x : Int32} : SpecX mX7_gain 8 1 6 [.ref 0, .int x] M (tFc [xIAE] M (A_gain x w)) := by
  have hZ := hO.z
  have hd := hZ.dims
  have hn120 := hO.2.2.2.1
  have hk14 := hO.2.1.1
  obtain ⟨M, S, rfl, hI⟩ := hF.board
  have h0 : (bset M 1 S) 0 = some (cO 6 [.ref 1, .ref 23, .ref 45, .ref 145, .ref 162]) := hF.1
  have hX : TXT (bset M 1 S) 162 (wn w) (wf w) := hF.2.2.2.2.2
  refine SpecX_of [some (.ref 0), some (.int x)] (by decide) (Nat.le_of_ble_eq_true rfl) rfl ?_
  have ea : A_gain x w = if inR x 30000 && posZ (wz w) (nm x) then rO (iI (gnZ (wz w) (nm x))) w else rN 1 w := rfl
  cases h1 : inR x 30000 with
  | false =>
    have eb : A_gain x w = rN 1 w := by rw [ea, h1]; rfl
    have hx : x < 0 ∨ nI 30000 ≤ x := by
      by_cases c : x < 0
      · exact Or.inl c
      · have c2 := inR_le h1 (by decide) c
        rw [lt_nI (by decide)] at c2
        exact Or.inr ((ge_nI (by decide)).mpr (by omega))
    refine r_aload0 (pc := 0) dX7_gain_0 ?_
    refine r_getf (pc := 1) fl_X7_10 dX7_gain_1 h0 rfl ?_
    refine r_iload1 (pc := 4) dX7_gain_4 ?_
    refine r_callV1i (pc := 5) lk_X7_290 dX7_gain_5 (bget0 rfl) (s_isPossibleNo hx) (by decide) (Nat.le_of_ble_eq_true rfl) ⟨Nat.zero_le _, Nat.zero_le _⟩ ?_
    refine b_if_ne (b := false) (pc := 8) 22 (by decide) dX7_gain_8 (fun h9 => by cases h9) (fun _ => ?_)
    exact G_throwW (pc := 11) 28 rfl rfl th_44 rfl dX7_gain_11 dX7_gain_14 dX7_gain_15 dX7_gain_18 dX7_gain_21 (by decide) (by decide) (by decide) (tFx 0 eb hF rfl)
  | true =>
    obtain ⟨c1, c2⟩ := inR_nm h1 (by decide)
    rw [h1] at ea
    have eb : A_gain x w = if posZ (wz w) (nm x) then rO (iI (gnZ (wz w) (nm x))) w else rN 1 w := ea
    clear ea
    generalize nm x = k at *
    subst c2
    refine r_aload0 (pc := 0) dX7_gain_0 ?_
    refine r_getf (pc := 1) fl_X7_10 dX7_gain_1 h0 rfl ?_
    refine r_iload1 (pc := 4) dX7_gain_4 ?_
    refine r_callV1i (pc := 5) lk_X7_290 dX7_gain_5 (bget0 rfl) (s_isPossible hI hZ c1) (by decide) (Nat.le_of_ble_eq_true rfl) ⟨Nat.zero_le _, Nat.zero_le _⟩ ?_
    refine b_if_ne (pc := 8) 22 (by decide) dX7_gain_8 (fun h9 => ?_) (fun h9 => ?_)
    · rw [h9] at eb
      refine r_aload0 (pc := 22) dX7_gain_22 ?_
      refine r_getf (pc := 23) fl_X7_10 dX7_gain_23 h0 rfl ?_
      refine r_iload1 (pc := 26) dX7_gain_26 ?_
      refine r_callV1i (pc := 27) lk_X7_295 dX7_gain_27 (bget0 rfl) (s_gainOf hI hZ c1 h9) (by decide) (Nat.le_of_ble_eq_true rfl) ⟨Nat.zero_le _, Nat.zero_le _⟩ ?_
      exact p_ireturn (pc := 30) true rfl rfl rfl dX7_gain_30 (Nat.zero_le _) (Nat.zero_le _) (Or.inl rfl) (tFo eb hF (fun _ _ => rfl))
    · rw [h9] at eb
      exact G_throwW (pc := 11) 28 rfl rfl th_44 rfl dX7_gain_11 dX7_gain_14 dX7_gain_15 dX7_gain_18 dX7_gain_21 (by decide) (by decide) (by decide) (tFx 0 eb hF rfl)
set_option maxRecDepth 20000 in
theorem s7_best (hF : FACE M w) (hO : WOK w) {x : Int32} : SpecX mX7_best 8 1 6 [.ref 0, .int x] M (tFc [xIAE] M (A_best x w)) := by
  have hZ := hO.z
  have hd := hZ.dims
  have hn120 := hO.2.2.2.1
  have hk14 := hO.2.1.1
  obtain ⟨M, S, rfl, hI⟩ := hF.board
  have h0 : (bset M 1 S) 0 = some (cO 6 [.ref 1, .ref 23, .ref 45, .ref 145, .ref 162]) := hF.1
  have hX : TXT (bset M 1 S) 162 (wn w) (wf w) := hF.2.2.2.2.2
  refine SpecX_of [some (.ref 0), some (.int x)] (by decide) (Nat.le_of_ble_eq_true rfl) rfl ?_
  have ea : A_best x w = if inR x 2 then rO (if nm x = 0 then bN (bestZ (wz w)) else iI (bG (bestZ (wz w)))) w else rN 1 w := rfl
  cases h1 : inR x 2 with
  | false =>
    have eb : A_best x w = rN 1 w := by rw [ea, h1]; rfl
    refine r_iload1 (pc := 0) dX7_best_0 ?_
    refine r_if_eq (pc := 1) 20 (by decide) dX7_best_1 (fun q => absurd h1 (by rw [q]; decide)) (fun _ => ?_)
    refine r_iload1 (pc := 4) dX7_best_4 ?_
    refine n_iconst_1 (pc := 5) dX7_best_5 ?_
    refine r_icmp_eq (pc := 6) 20 (by decide) dX7_best_6 (fun q => absurd h1 (by rw [q]; decide)) (fun _ => ?_)
    exact G_throwW (pc := 9) 29 rfl rfl th_44 rfl dX7_best_9 dX7_best_12 dX7_best_13 dX7_best_16 dX7_best_19 (by decide) (by decide) (by decide) (tFx 0 eb hF rfl)
  | true =>
    obtain ⟨c1, c2⟩ := inR_nm h1 (by decide)
    have eb : A_best x w = rO (if nm x = 0 then bN (bestZ (wz w)) else iI (bG (bestZ (wz w)))) w := by rw [ea, h1]; rfl
    clear ea
    generalize nm x = k at *
    subst c2
    have c : k = 0 ∨ k = 1 := by omega
    rcases c with c | c <;> subst c
    · refine r_iload1 (pc := 0) dX7_best_0 ?_
      refine n_if_eq (pc := 1) 20 (by decide) dX7_best_1 (by omega) (fun hc1 => ?_) (fun hc1 => absurd hc1 (by omega))
      refine r_aload0 (pc := 20) dX7_best_20 ?_
      refine r_getf (pc := 21) fl_X7_10 dX7_best_21 h0 rfl ?_
      refine r_getf (pc := 24) fl_X7_300 dX7_best_24 (bget0 rfl) rfl ?_
      refine r_aload0 (pc := 27) dX7_best_27 ?_
      refine r_getf (pc := 28) fl_X7_10 dX7_best_28 h0 rfl ?_
      refine r_callV1w (pc := 31) lk_X7_304 dX7_best_31 (bget rfl) (s_findIn hI hZ)  (by decide) (Nat.le_of_ble_eq_true rfl) ⟨Nat.zero_le _, Nat.zero_le _⟩ (fun M9 h9 => ?_)
      obtain ⟨S2, hI2, hR2, hB2, rfl⟩ := h9
      have hF2 : FACE (bset M 1 S2) w := FACE.setB hF hI2
      have h0 : bset M 1 S2 0 = some (cO 6 [.ref 1, .ref 23, .ref 45, .ref 145, .ref 162]) := hF2.1
      refine r_iload1 (pc := 34) dX7_best_34 ?_
      refine n_if_ne (pc := 35) 51 (by decide) dX7_best_35 (by omega) (fun hc35 => absurd hc35 (by omega)) (fun hc35 => ?_)
      refine r_aload0 (pc := 38) dX7_best_38 ?_
      refine r_getf (pc := 39) fl_X7_10 dX7_best_39 h0 rfl ?_
      refine r_getf (pc := 42) fl_X7_300 dX7_best_42 (bget0 rfl) rfl ?_
      refine r_getf (pc := 45) fl_X7_310 dX7_best_45 (bget rfl) rfl ?_
      rw [hB2.1]
      refine r_goto (pc := 48) 61 (by decide) dX7_best_48 ?_
      exact p_ireturn (pc := 61) true rfl rfl rfl dX7_best_61 (Nat.zero_le _) (Nat.zero_le _) (Or.inl rfl) (tFo eb hF2 (fun i hi => bfr hi))
    · refine r_iload1 (pc := 0) dX7_best_0 ?_
      refine n_if_eq (pc := 1) 20 (by decide) dX7_best_1 (by omega) (fun hc1 => absurd hc1 (by omega)) (fun hc1 => ?_)
      refine r_iload1 (pc := 4) dX7_best_4 ?_
      refine n_iconst_1 (pc := 5) dX7_best_5 ?_
      refine n_icmp_eq (pc := 6) 20 (by decide) dX7_best_6 (by omega) (by omega) (fun hc6 => ?_) (fun hc6 => absurd hc6 (by omega))
      refine r_aload0 (pc := 20) dX7_best_20 ?_
      refine r_getf (pc := 21) fl_X7_10 dX7_best_21 h0 rfl ?_
      refine r_getf (pc := 24) fl_X7_300 dX7_best_24 (bget0 rfl) rfl ?_
      refine r_aload0 (pc := 27) dX7_best_27 ?_
      refine r_getf (pc := 28) fl_X7_10 dX7_best_28 h0 rfl ?_
      refine r_callV1w (pc := 31) lk_X7_304 dX7_best_31 (bget rfl) (s_findIn hI hZ)  (by decide) (Nat.le_of_ble_eq_true rfl) ⟨Nat.zero_le _, Nat.zero_le _⟩ (fun M9 h9 => ?_)
      obtain ⟨S2, hI2, hR2, hB2, rfl⟩ := h9
      have hF2 : FACE (bset M 1 S2) w := FACE.setB hF hI2
      have h0 : bset M 1 S2 0 = some (cO 6 [.ref 1, .ref 23, .ref 45, .ref 145, .ref 162]) := hF2.1
      refine r_iload1 (pc := 34) dX7_best_34 ?_
      refine n_if_ne (pc := 35) 51 (by decide) dX7_best_35 (by omega) (fun hc35 => ?_) (fun hc35 => absurd hc35 (by omega))
      refine r_aload0 (pc := 51) dX7_best_51 ?_
      refine r_getf (pc := 52) fl_X7_10 dX7_best_52 h0 rfl ?_
      refine r_getf (pc := 55) fl_X7_300 dX7_best_55 (bget0 rfl) rfl ?_
      refine r_getf (pc := 58) fl_X7_313 dX7_best_58 (bget rfl) rfl ?_
      rw [hB2.2]
      exact p_ireturn (pc := 61) true rfl rfl rfl dX7_best_61 (Nat.zero_le _) (Nat.zero_le _) (Or.inl rfl) (tFo eb hF2 (fun i hi => bfr hi))
set_option maxRecDepth 20000 in
theorem s7_ifImproved (hF : FACE M w) (hO : WOK w) {x y : Int32} : SpecX mX7_ifImproved 8 1 6 [.ref 0, .int x, .int y] M (tFc [xIAE] M (A_ifImproved x y w)) := by
  have hZ := hO.z
  have hd := hZ.dims
  have hn120 := hO.2.2.2.1
  have hk14 := hO.2.1.1
  obtain ⟨M, S, rfl, hI⟩ := hF.board
  have h0 : (bset M 1 S) 0 = some (cO 6 [.ref 1, .ref 23, .ref 45, .ref 145, .ref 162]) := hF.1
  have hX : TXT (bset M 1 S) 162 (wn w) (wf w) := hF.2.2.2.2.2
  refine SpecX_of [some (.ref 0), some (.int x), some (.int y)] (by decide) (Nat.le_of_ble_eq_true rfl) rfl ?_
  obtain ⟨vs, h23⟩ := hF.trial
  have no : A_ifImproved x y w = rN 1 w →
    G mX7_ifImproved 8 (.inl true) 1 6 (tFc [xIAE] (bset M 1 S) (A_ifImproved x y w)) none 0 0 16 [some (.ref 0), some (.int x), some (.int y)] [] (bset M 1 S)
    := by
    intro e
    exact G_throwW (pc := 16) 30 rfl rfl th_44 rfl dX7_ifImproved_16 dX7_ifImproved_19 dX7_ifImproved_20 dX7_ifImproved_23 dX7_ifImproved_26 (by decide) (by decide) (by decide) (tFx 0 e hF rfl)
  have ea : A_ifImproved x y w = if inB x 1 20 && inR y 2 then rO (if nm y = 0 then iI (erAll (wz w) - erAll (impZ (nm x) (wz w))) else nI (impN (nm x) (wz w))) w else rN 1 w := rfl
  refine r_iload1 (pc := 0) dX7_ifImproved_0 ?_
  refine r_callS1i (pc := 1) lk_X7_267 dX7_ifImproved_1 s_isCount (by decide) (Nat.le_of_ble_eq_true rfl) ⟨Nat.zero_le _, Nat.zero_le _⟩ ?_
  refine b_if_eq (pc := 4) 16 (by decide) dX7_ifImproved_4 (fun h1 => no (by rw [ea, h1]; rfl)) (fun h1 => ?_)
  cases h2 : inR y 2 with
  | false =>
    have eb := no (by rw [ea, h1, h2]; rfl)
    refine r_iload2 (pc := 7) dX7_ifImproved_7 ?_
    refine r_if_eq (pc := 8) 27 (by decide) dX7_ifImproved_8 (fun q => absurd h2 (by rw [q]; decide)) (fun _ => ?_)
    refine r_iload2 (pc := 11) dX7_ifImproved_11 ?_
    refine n_iconst_1 (pc := 12) dX7_ifImproved_12 ?_
    exact r_icmp_eq (pc := 13) 27 (by decide) dX7_ifImproved_13 (fun q => absurd h2 (by rw [q]; decide)) (fun _ => eb)
  | true =>
    have eb : A_ifImproved x y w = rO (if nm y = 0 then iI (erAll (wz w) - erAll (impZ (nm x) (wz w))) else nI (impN (nm x) (wz w))) w := by rw [ea, h1, h2]; rfl
    clear ea no
    obtain ⟨c1, c2, c3⟩ := inB_ex h1 (by decide)
    obtain ⟨e1, e2⟩ := inR_nm h2 (by decide)
    generalize nm x = m at *
    generalize nm y = k at *
    subst c3 e2
    have body :
      G mX7_ifImproved 8 (.inl true) 1 6 (tFc [xIAE] (bset M 1 S) (A_ifImproved (nI m) (nI k) w)) none 0 0 27 [some (.ref 0), some (.int (nI m)), some (.int (nI k))] [] (bset M 1 S)
      := by
      refine r_aload0 (pc := 27) dX7_ifImproved_27 ?_
      refine r_getf (pc := 28) fl_X7_16 dX7_ifImproved_28 h0 rfl ?_
      refine r_aload0 (pc := 31) dX7_ifImproved_31 ?_
      refine r_getf (pc := 32) fl_X7_10 dX7_ifImproved_32 h0 rfl ?_
      refine r_getf (pc := 35) fl_X7_101 dX7_ifImproved_35 (bget0 rfl) rfl ?_
      refine r_callV1w (pc := 38) lk_X7_284 dX7_ifImproved_38 h23 (s7_take hF hI hZ)  (by decide) (Nat.le_of_ble_eq_true rfl) ⟨Nat.zero_le _, Nat.zero_le _⟩ (fun M9 h9 => ?_)
      obtain ⟨S1, hI1, rfl⟩ := h9
      have hF1 : FACE (bset (bset M 1 S) 23 S1) w := hF.setT
      have h01 : bset (bset M 1 S) 23 S1 0 = some (cO 6 [.ref 1, .ref 23, .ref 45, .ref 145, .ref 162]) := hF1.1
      refine r_aload0 (pc := 41) dX7_ifImproved_41 ?_
      refine r_getf (pc := 42) fl_X7_16 dX7_ifImproved_42 h01 rfl ?_
      refine r_iload1 (pc := 45) dX7_ifImproved_45 ?_
      refine r_callV1w (pc := 46) lk_X7_272 dX7_ifImproved_46 (bget0 rfl) (s_doBestChanges hI1 hZ (m := m) (by omega))  (by decide) (Nat.le_of_ble_eq_true rfl) ⟨Nat.zero_le _, Nat.zero_le _⟩ (fun M9 h9 => ?_)
      obtain ⟨S2, hI2, rfl⟩ := h9
      have hF2 : FACE (bset (bset M 1 S) 23 S2) w := hF.setT
      have h02 : bset (bset M 1 S) 23 S2 0 = some (cO 6 [.ref 1, .ref 23, .ref 45, .ref 145, .ref 162]) := hF2.1
      have c : k = 0 ∨ k = 1 := by omega
      rcases c with c | c <;> subst c
      · skip
        refine r_iload2 (pc := 49) dX7_ifImproved_49 ?_
        refine n_if_ne (pc := 50) 71 (by decide) dX7_ifImproved_50 (by omega) (fun hc50 => absurd hc50 (by omega)) (fun hc50 => ?_)
        refine r_aload0 (pc := 53) dX7_ifImproved_53 ?_
        refine r_getf (pc := 54) fl_X7_10 dX7_ifImproved_54 h02 rfl ?_
        refine r_callV0i (pc := 57) lk_X7_122 dX7_ifImproved_57 ((bset_out (by decide)).trans (bget0 rfl)) (s7_errB hI hZ) (by decide) (Nat.le_of_ble_eq_true rfl) ⟨Nat.zero_le _, Nat.zero_le _⟩ ?_
        refine r_aload0 (pc := 60) dX7_ifImproved_60 ?_
        refine r_getf (pc := 61) fl_X7_16 dX7_ifImproved_61 h02 rfl ?_
        refine r_callV0i (pc := 64) lk_X7_122 dX7_ifImproved_64 (bget0 rfl) (s_errorOfAll hI2 (impZ_ok m hZ)) (by decide) (Nat.le_of_ble_eq_true rfl) ⟨Nat.zero_le _, Nat.zero_le _⟩ ?_
        first | refine n_isubI (pc := 67) dX7_ifImproved_67 ?_ | refine z_isub (pc := 67) dX7_ifImproved_67 ?_ | refine r_isub (pc := 67) dX7_ifImproved_67 ?_
        refine r_goto (pc := 68) 92 (by decide) dX7_ifImproved_68 ?_
        exact p_ireturn (pc := 92) true rfl rfl rfl dX7_ifImproved_92 (Nat.zero_le _) (Nat.zero_le _) (Or.inl rfl) (tFo eb hF2 (fun i hi => tfr hi))
      · have ic := imp_ch m hZ
        have eb : A_ifImproved (nI m) (nI 1) w = rO (S2.1 6 - S.1 6) w := by
          rw [eb, hI2.c6, hI.c6, ic.1, i32_cancel]; rfl
        refine r_iload2 (pc := 49) dX7_ifImproved_49 ?_
        refine n_if_ne (pc := 50) 71 (by decide) dX7_ifImproved_50 (by omega) (fun hc50 => ?_) (fun hc50 => absurd hc50 (by omega))
        refine r_aload0 (pc := 71) dX7_ifImproved_71 ?_
        refine r_getf (pc := 72) fl_X7_16 dX7_ifImproved_72 h02 rfl ?_
        refine r_getf (pc := 75) fl_X7_101 dX7_ifImproved_75 (bget0 rfl) rfl ?_
        refine r_getf (pc := 78) fl_X7_142 dX7_ifImproved_78 (bget rfl) rfl ?_
        refine r_aload0 (pc := 81) dX7_ifImproved_81 ?_
        refine r_getf (pc := 82) fl_X7_10 dX7_ifImproved_82 h02 rfl ?_
        refine r_getf (pc := 85) fl_X7_101 dX7_ifImproved_85 ((bset_out (by decide)).trans (bget0 rfl)) rfl ?_
        refine r_getf (pc := 88) fl_X7_142 dX7_ifImproved_88 ((bset_out (by decide)).trans (bget rfl)) rfl ?_
        refine r_isub (pc := 91) dX7_ifImproved_91 ?_
        exact p_ireturn (pc := 92) true rfl rfl rfl dX7_ifImproved_92 (Nat.zero_le _) (Nat.zero_le _) (Or.inl rfl) (tFo eb hF2 (fun i hi => tfr hi))
    have c : k = 0 ∨ k = 1 := by omega
    rcases c with c | c <;> subst c
    · refine r_iload2 (pc := 7) dX7_ifImproved_7 ?_
      refine n_if_eq (pc := 8) 27 (by decide) dX7_ifImproved_8 (by omega) (fun hc8 => ?_) (fun hc8 => absurd hc8 (by omega))
      exact body
    · refine r_iload2 (pc := 7) dX7_ifImproved_7 ?_
      refine n_if_eq (pc := 8) 27 (by decide) dX7_ifImproved_8 (by omega) (fun hc8 => absurd hc8 (by omega)) (fun hc8 => ?_)
      refine r_iload2 (pc := 11) dX7_ifImproved_11 ?_
      refine n_iconst_1 (pc := 12) dX7_ifImproved_12 ?_
      refine n_icmp_eq (pc := 13) 27 (by decide) dX7_ifImproved_13 (by omega) (by omega) (fun hc13 => ?_) (fun hc13 => absurd hc13 (by omega))
      exact body
set_option maxRecDepth 20000 in
theorem s7_least (hF : FACE M w) (hO : WOK w) : SpecP mX7_least 8 0 0 [.ref 0] M (tFc [] M (A_least w)) := by
  have hZ := hO.z
  have hd := hZ.dims
  have hn120 := hO.2.2.2.1
  have hk14 := hO.2.1.1
  obtain ⟨M, S, rfl, hI⟩ := hF.board
  have h0 : (bset M 1 S) 0 = some (cO 6 [.ref 1, .ref 23, .ref 45, .ref 145, .ref 162]) := hF.1
  have hX : TXT (bset M 1 S) 162 (wn w) (wf w) := hF.2.2.2.2.2
  refine Spec_of [some (.ref 0)] (by decide) (Nat.le_of_ble_eq_true rfl) rfl ?_
  refine r_aload0 (pc := 0) dX7_least_0 ?_
  refine r_getf (pc := 1) fl_X7_10 dX7_least_1 h0 rfl ?_
  refine r_callV0i (pc := 4) lk_X7_318 dX7_least_4 (bget0 rfl) (s_leastOfAll hI hZ) (by decide) (Nat.le_of_ble_eq_true rfl) ⟨Nat.zero_le _, Nat.zero_le _⟩ ?_
  exact p_ireturn (pc := 7) false rfl rfl rfl dX7_least_7 (Nat.zero_le _) (Nat.zero_le _) (Or.inl rfl) (tFo rfl hF (fun _ _ => rfl))
set_option maxRecDepth 20000 in
theorem s7_worst (hF : FACE M w) (hO : WOK w) {x : Int32} : SpecX mX7_worst 8 1 6 [.ref 0, .int x] M (tFc [xIOB] M (A_worst x w)) := by
  have hZ := hO.z
  have hd := hZ.dims
  have hn120 := hO.2.2.2.1
  have hk14 := hO.2.1.1
  obtain ⟨M, S, rfl, hI⟩ := hF.board
  have h0 : (bset M 1 S) 0 = some (cO 6 [.ref 1, .ref 23, .ref 45, .ref 145, .ref 162]) := hF.1
  have hX : TXT (bset M 1 S) 162 (wn w) (wf w) := hF.2.2.2.2.2
  refine SpecX_of [some (.ref 0), some (.int x)] (by decide) (Nat.le_of_ble_eq_true rfl) rfl ?_
  have ea : A_worst x w = if inR x (zt (wz w)) then rO (oI (worZ (wz w) (nm x))) w else rN 1 w := rfl
  refine r_aload0 (pc := 0) dX7_worst_0 ?_
  refine r_getf (pc := 1) fl_X7_10 dX7_worst_1 h0 rfl ?_
  refine r_iload1 (pc := 4) dX7_worst_4 ?_
  refine r_callV1i (pc := 5) lk_X7_181 dX7_worst_5 (bget0 rfl) (s_hasPlace hI hZ) (by decide) (Nat.le_of_ble_eq_true rfl) ⟨Nat.zero_le _, Nat.zero_le _⟩ ?_
  refine b_if_ne (pc := 8) 22 (by decide) dX7_worst_8 (fun h1 => ?_) (fun h1 => ?_)
  · have eb : A_worst x w = rO (oI (worZ (wz w) (nm x))) w := by rw [ea, h1]; rfl
    clear ea
    obtain ⟨c1, c2⟩ := inR_nm h1 (by omega)
    generalize nm x = k at *
    subst c2
    refine r_aload0 (pc := 22) dX7_worst_22 ?_
    refine r_getf (pc := 23) fl_X7_10 dX7_worst_23 h0 rfl ?_
    refine r_iload1 (pc := 26) dX7_worst_26 ?_
    refine r_callV1x (pc := 27) lk_X7_323 dX7_worst_27 (bget0 rfl) (s_placeOfRank hI hZ c1)  (by decide) (Nat.le_of_ble_eq_true rfl) ⟨Nat.zero_le _, Nat.zero_le _⟩ (fun M9 h9 => ?_)
    obtain ⟨S2, hI2, rfl⟩ := h9
    have hF2 : FACE (bset M 1 S2) w := FACE.setB hF hI2
    exact p_ireturn (pc := 30) true rfl rfl rfl dX7_worst_30 (Nat.zero_le _) (Nat.zero_le _) (Or.inl rfl) (tFo eb hF2 (fun i hi => bfr hi))
  · exact G_throwW (pc := 11) 31 rfl rfl th_151 rfl dX7_worst_11 dX7_worst_14 dX7_worst_15 dX7_worst_18 dX7_worst_21 (by decide) (by decide) (by decide) (tFx 0 (by rw [ea, h1]; rfl) hF rfl)
set_option maxRecDepth 20000 in
theorem s7_fits (hF : FACE M w) (hO : WOK w) {x : Int32} : SpecX mX7_fits 8 1 6 [.ref 0, .int x] M (tFc [xIOB] M (A_fits x w)) := by
  have hZ := hO.z
  have hd := hZ.dims
  have hn120 := hO.2.2.2.1
  have hk14 := hO.2.1.1
  obtain ⟨M, S, rfl, hI⟩ := hF.board
  have h0 : (bset M 1 S) 0 = some (cO 6 [.ref 1, .ref 23, .ref 45, .ref 145, .ref 162]) := hF.1
  have hX : TXT (bset M 1 S) 162 (wn w) (wf w) := hF.2.2.2.2.2
  refine SpecX_of [some (.ref 0), some (.int x)] (by decide) (Nat.le_of_ble_eq_true rfl) rfl ?_
  have ea : A_fits x w = if inR x (zt (wz w)) then rO (nI (fitZ (wz w) (nm x))) w else rN 1 w := rfl
  refine r_aload0 (pc := 0) dX7_fits_0 ?_
  refine r_getf (pc := 1) fl_X7_10 dX7_fits_1 h0 rfl ?_
  refine r_iload1 (pc := 4) dX7_fits_4 ?_
  refine r_callV1i (pc := 5) lk_X7_204 dX7_fits_5 (bget0 rfl) (s_hasTile hI hZ) (by decide) (Nat.le_of_ble_eq_true rfl) ⟨Nat.zero_le _, Nat.zero_le _⟩ ?_
  refine b_if_ne (pc := 8) 21 (by decide) dX7_fits_8 (fun h1 => ?_) (fun h1 => ?_)
  · have eb : A_fits x w = rO (nI (fitZ (wz w) (nm x))) w := by rw [ea, h1]; rfl
    clear ea
    obtain ⟨c1, c2⟩ := inR_nm h1 (by omega)
    generalize nm x = k at *
    subst c2
    refine r_aload0 (pc := 21) dX7_fits_21 ?_
    refine r_getf (pc := 22) fl_X7_10 dX7_fits_22 h0 rfl ?_
    refine r_iload1 (pc := 25) dX7_fits_25 ?_
    refine r_callV1i (pc := 26) lk_X7_326 dX7_fits_26 (bget0 rfl) (s_bestPlaceFor hI hZ c1) (by decide) (Nat.le_of_ble_eq_true rfl) ⟨Nat.zero_le _, Nat.zero_le _⟩ ?_
    exact p_ireturn (pc := 29) true rfl rfl rfl dX7_fits_29 (Nat.zero_le _) (Nat.zero_le _) (Or.inl rfl) (tFo eb hF (fun _ _ => rfl))
  · exact G_throw (pc := 11) 18 rfl rfl th_151 rfl dX7_fits_11 dX7_fits_14 dX7_fits_15 dX7_fits_17 dX7_fits_20 (by decide) (by decide) (by decide) (tFx 0 (by rw [ea, h1]; rfl) hF rfl)
set_option maxRecDepth 20000 in
theorem s7_simulate (hF : FACE M w) (hO : WOK w) {s : Int64} {x : Int32} : SpecX mX7_simulate 8 1 6 [.ref 0, .long s, .int x] M (tFc [xIAE] M (A_simulate s x w)) := by
  have hZ := hO.z
  have hd := hZ.dims
  have hn120 := hO.2.2.2.1
  have hk14 := hO.2.1.1
  obtain ⟨M, S, rfl, hI⟩ := hF.board
  have h0 : (bset M 1 S) 0 = some (cO 6 [.ref 1, .ref 23, .ref 45, .ref 145, .ref 162]) := hF.1
  have hX : TXT (bset M 1 S) 162 (wn w) (wf w) := hF.2.2.2.2.2
  refine SpecX_of [some (.ref 0), some (.long s), none, some (.int x), none, none, none] (by decide) (Nat.le_of_ble_eq_true rfl) rfl ?_
  obtain ⟨vs, h23⟩ := hF.trial
  have no : A_simulate s x w = rN 1 w →
    G mX7_simulate 8 (.inl true) 1 6 (tFc [xIAE] (bset M 1 S) (A_simulate s x w)) none 0 0 11 [some (.ref 0), some (.long s), none, some (.int x), none, none, none] [] (bset M 1 S)
    := by
    intro e
    exact G_throwW (pc := 11) 33 rfl rfl th_44 rfl dX7_simulate_11 dX7_simulate_14 dX7_simulate_15 dX7_simulate_18 dX7_simulate_21 (by decide) (by decide) (by decide) (tFx 0 e hF rfl)
  have ea : A_simulate s x w = if inB x 1 30 then rO (iI (erAll (simL (nm x) s (wz w)))) w else rN 1 w := rfl
  refine r_iload3 (pc := 0) dX7_simulate_0 ?_
  refine n_iconst_1 (pc := 1) dX7_simulate_1 ?_
  cases h1 : inB x 1 30 with
  | false =>
    have eb := no (by rw [ea, h1]; rfl)
    refine r_icmp_lt (pc := 2) 11 (by decide) dX7_simulate_2 (fun _ => eb) (fun q1 => ?_)
    refine r_iload3 (pc := 5) dX7_simulate_5 ?_
    refine n_bipush (pc := 6) 30 (by decide) dX7_simulate_6 ?_
    exact r_icmp_le (pc := 8) 22 (by decide) dX7_simulate_8 (fun q2 => absurd q2 (inB_le h1 (by decide) (by decide) q1)) (fun _ => eb)
  | true =>
    obtain ⟨c1, c2, c3⟩ := inB_ex h1 (by decide)
    have eb : A_simulate s x w = rO (iI (erAll (simL (nm x) s (wz w)))) w := by rw [ea, h1]; rfl
    clear ea no
    generalize nm x = n at *
    subst c3
    refine n_icmp_lt (pc := 2) 11 (by decide) dX7_simulate_2 (by omega) (by omega) (fun hc2 => absurd hc2 (by omega)) (fun hc2 => ?_)
    refine r_iload3 (pc := 5) dX7_simulate_5 ?_
    refine n_bipush (pc := 6) 30 (by decide) dX7_simulate_6 ?_
    refine n_icmp_le (pc := 8) 22 (by decide) dX7_simulate_8 (by omega) (by omega) (fun hc8 => ?_) (fun hc8 => absurd hc8 (by omega))
    refine r_aload0 (pc := 22) dX7_simulate_22 ?_
    refine r_getf (pc := 23) fl_X7_16 dX7_simulate_23 h0 rfl ?_
    refine r_aload0 (pc := 26) dX7_simulate_26 ?_
    refine r_getf (pc := 27) fl_X7_10 dX7_simulate_27 h0 rfl ?_
    refine r_getf (pc := 30) fl_X7_101 dX7_simulate_30 (bget0 rfl) rfl ?_
    refine r_callV1w (pc := 33) lk_X7_284 dX7_simulate_33 h23 (s7_take hF hI hZ)  (by decide) (Nat.le_of_ble_eq_true rfl) ⟨Nat.zero_le _, Nat.zero_le _⟩ (fun M9 h9 => ?_)
    obtain ⟨S1, hI1, rfl⟩ := h9
    refine r_lload1 (pc := 36) dX7_simulate_36 ?_
    refine r_lstore4 (pc := 37) dX7_simulate_37 rfl ?_
    refine n_iconst_0 (pc := 39) dX7_simulate_39 ?_
    refine r_istore6 (pc := 40) dX7_simulate_40 rfl ?_
    have lp : ∀ (m i : Nat) (s9 : Int64) (y : ZS) (S1 : BS), i + m = n → InvB S1 y → zOT y → simL m s9 y = simL n s (wz w) →
      G mX7_simulate 8 (.inl true) 1 6 (tFc [xIAE] (bset M 1 S) (A_simulate s (nI n) w)) none 0 0 42 [some (.ref 0), some (.long s), none, some (.int (nI n)), some (.long s9), none, some (.int (nI i))] [] (bset (bset M 1 S) 23 S1)
      := by
      intro m
      induction m with
      | zero =>
        intro i s9 y S1 k1 k3 k4 k5
        rw [simL_0] at k5
        have hF1 : FACE (bset (bset M 1 S) 23 S1) w := hF.setT
        have h01 : bset (bset M 1 S) 23 S1 0 = some (cO 6 [.ref 1, .ref 23, .ref 45, .ref 145, .ref 162]) := hF1.1
        rw [← k5] at eb
        refine r_iload6 (pc := 42) dX7_simulate_42 ?_
        refine r_iload3 (pc := 44) dX7_simulate_44 ?_
        refine n_icmp_ge (pc := 45) 79 (by decide) dX7_simulate_45 (by omega) (by omega) (fun hc45 => ?_) (fun hc45 => absurd hc45 (by omega))
        refine r_aload0 (pc := 79) dX7_simulate_79 ?_
        refine r_getf (pc := 80) fl_X7_16 dX7_simulate_80 h01 rfl ?_
        refine r_callV0i (pc := 83) lk_X7_122 dX7_simulate_83 (bget0 rfl) (s_errorOfAll k3 k4.1) (by decide) (Nat.le_of_ble_eq_true rfl) ⟨Nat.zero_le _, Nat.zero_le _⟩ ?_
        exact p_ireturn (pc := 86) true rfl rfl rfl dX7_simulate_86 (Nat.zero_le _) (Nat.zero_le _) (Or.inl rfl) (tFo eb hF1 (fun i hi => tfr hi))
      | succ m ih =>
        intro i s9 y S1 k1 k3 k4 k5
        have hF1 : FACE (bset (bset M 1 S) 23 S1) w := hF.setT
        have h01 : bset (bset M 1 S) 23 S1 0 = some (cO 6 [.ref 1, .ref 23, .ref 45, .ref 145, .ref 162]) := hF1.1
        refine r_iload6 (pc := 42) dX7_simulate_42 ?_
        refine r_iload3 (pc := 44) dX7_simulate_44 ?_
        refine n_icmp_ge (pc := 45) 79 (by decide) dX7_simulate_45 (by omega) (by omega) (fun hc45 => absurd hc45 (by omega)) (fun hc45 => ?_)
        refine r_lload4 (pc := 48) dX7_simulate_48 ?_
        refine r_ldc2 (v := (6364136223846793005)) (pc := 50) (tG 1008 (by decide +kernel) (by decide +kernel)) dX7_simulate_50 ?_
        refine r_lmul (pc := 53) dX7_simulate_53 ?_
        refine r_ldc2 (v := (1442695040888963407)) (pc := 54) (tG 1009 (by decide +kernel) (by decide +kernel)) dX7_simulate_54 ?_
        refine r_ladd (pc := 57) dX7_simulate_57 ?_
        generalize hs9 : s9 * 6364136223846793005 + 1442695040888963407 = t9
        have hs9 : nxS s9 = t9 := hs9
        subst hs9
        refine r_lstore4 (pc := 58) dX7_simulate_58 rfl ?_
        refine r_aload0 (pc := 60) dX7_simulate_60 ?_
        refine r_getf (pc := 61) fl_X7_16 dX7_simulate_61 h01 rfl ?_
        refine r_lload4 (pc := 64) dX7_simulate_64 ?_
        refine n_bipush (pc := 66) 33 (by decide) dX7_simulate_66 ?_
        refine r_lushr (pc := 68) dX7_simulate_68 ?_
        refine r_l2i (pc := 69) dX7_simulate_69 ?_
        change G mX7_simulate 8 (.inl true) 1 6 (tFc [xIAE] (bset M 1 S) (A_simulate s (nI n) w)) none 0 0 70 _ [.int (((nxS s9).toUInt64 >>> ((nI 33).toInt64.toUInt64 &&& Int64.toUInt64 63)).toInt64.toInt32), .ref 23] (bset (bset M 1 S) 23 S1)
        rw [rnd_eq]
        refine r_callS2w (pc := 70) lk_X7_347 dX7_simulate_70 (s_doTurn (M := bset M 1 S) k3 k4.1 (rnd_lt (nxS s9)))  (by decide) (Nat.le_of_ble_eq_true rfl) ⟨Nat.zero_le _, Nat.zero_le _⟩ (fun M9 h9 => ?_)
        obtain ⟨S2, q2, rfl⟩ := h9
        refine n_iinc6 (pc := 73) dX7_simulate_73 rfl ?_
        refine r_goto (pc := 76) 42 (by decide) dX7_simulate_76 ?_
        rw [simL_s] at k5
        exact ih (i + 1) (nxS s9) (simR y (nxS s9)) S2 (by omega) q2 (simR_ot k4 _) k5
    exact lp n 0 s (wz w) S1 (by omega) hI1 hO.1 rfl
set_option maxRecDepth 20000 in
theorem s7_runScript (hF : FACE M w) (hO : WOK w) {x : Int32} {s : Int64} : SpecX mX7_runScript 8 1 6 [.ref 0, .int x, .long s] M (tFc [xIAE] M (A_runScript x s w)) := by
  have hZ := hO.z
  have hd := hZ.dims
  have hn120 := hO.2.2.2.1
  have hk14 := hO.2.1.1
  obtain ⟨M, S, rfl, hI⟩ := hF.board
  have h0 : (bset M 1 S) 0 = some (cO 6 [.ref 1, .ref 23, .ref 45, .ref 145, .ref 162]) := hF.1
  have hX : TXT (bset M 1 S) 162 (wn w) (wf w) := hF.2.2.2.2.2
  refine SpecX_of [some (.ref 0), some (.int x), some (.long s), none, none, none, none, none, none] (by decide) (Nat.le_of_ble_eq_true rfl) rfl ?_
  obtain ⟨vs, h23⟩ := hF.trial
  have no : A_runScript x s w = rN 1 w →
    G mX7_runScript 8 (.inl true) 1 6 (tFc [xIAE] (bset M 1 S) (A_runScript x s w)) none 0 0 25 [some (.ref 0), some (.int x), some (.long s), none, none, none, none, none, none] [] (bset M 1 S)
    := by
    intro e
    exact G_throwW (pc := 25) 32 rfl rfl th_44 rfl dX7_runScript_25 dX7_runScript_28 dX7_runScript_29 dX7_runScript_32 dX7_runScript_35 (by decide) (by decide) (by decide) (tFx 0 e hF rfl)
  have ea : A_runScript x s w = if inB x 1 3 && inS (nm x) s then rO (oI (scrL (nm x) s.toInt.toNat (nm x) 0 (wz w))) w else rN 1 w := rfl
  refine r_iload1 (pc := 0) dX7_runScript_0 ?_
  refine n_iconst_1 (pc := 1) dX7_runScript_1 ?_
  cases h1 : inB x 1 3 with
  | false =>
    have eb := no (by rw [ea, h1]; rfl)
    refine r_icmp_lt (pc := 2) 25 (by decide) dX7_runScript_2 (fun _ => eb) (fun q1 => ?_)
    refine r_iload1 (pc := 5) dX7_runScript_5 ?_
    refine n_iconst_3 (pc := 6) dX7_runScript_6 ?_
    exact r_icmp_gt (pc := 7) 25 (by decide) dX7_runScript_7 (fun _ => eb) (fun q2 => absurd (inB_lt h1 (by decide) (by decide) q1) q2)
  | true =>
    obtain ⟨c1, c2, c3⟩ := inB_ex h1 (by decide)
    rw [h1] at ea
    have ea2 : A_runScript x s w = if inS (nm x) s then rO (oI (scrL (nm x) s.toInt.toNat (nm x) 0 (wz w))) w else rN 1 w := ea
    clear ea
    generalize nm x = n at *
    subst c3
    have hp : 1000000 ^ n ≤ 1000000000000000000 := by
      have c : n = 1 ∨ n = 2 ∨ n = 3 := by omega
      rcases c with e | e | e <;> subst e <;> decide
    have hbg : (bgL n).toInt = ((1000000 ^ n : Nat) : Int) := by rw [bgL_lI c2, lI_toInt (by omega)]
    have h00 : (0 : Int64).toInt = 0 := rfl
    refine n_icmp_lt (pc := 2) 25 (by decide) dX7_runScript_2 (by omega) (by omega) (fun hc2 => absurd hc2 (by omega)) (fun hc2 => ?_)
    refine r_iload1 (pc := 5) dX7_runScript_5 ?_
    refine n_iconst_3 (pc := 6) dX7_runScript_6 ?_
    refine n_icmp_gt (pc := 7) 25 (by decide) dX7_runScript_7 (by omega) (by omega) (fun hc7 => absurd hc7 (by omega)) (fun hc7 => ?_)
    refine r_lload2 (pc := 10) dX7_runScript_10 ?_
    refine r_lconst_0 (pc := 11) dX7_runScript_11 ?_
    refine r_lcmp (pc := 12) dX7_runScript_12 ?_
    cases h2 : inS n s with
    | false =>
      have eb := no (by rw [ea2, h2]; rfl)
      have h3 := of_decide_eq_false h2
      refine r_if_lt (pc := 13) 25 (by decide) dX7_runScript_13 (fun _ => eb) (fun q1 => ?_)
      have q1 : ¬ s < 0 := fun q => q1 ((lg_cmp_lt _ _).mpr q)
      refine r_lload2 (pc := 16) dX7_runScript_16 ?_
      refine r_iload1 (pc := 17) dX7_runScript_17 ?_
      refine r_callS1i (pc := 18) lk_X7_329 dX7_runScript_18 (s_behindGroups (by omega)) (by decide) (Nat.le_of_ble_eq_true rfl) ⟨Nat.zero_le _, Nat.zero_le _⟩ ?_
      refine r_lcmp (pc := 21) dX7_runScript_21 ?_
      refine r_if_lt (pc := 22) 36 (by decide) dX7_runScript_22 (fun q2 => ?_) (fun _ => eb)
      have q2 := Int64.lt_iff_toInt_lt.mp ((lg_cmp_lt _ _).mp q2)
      rw [Int64.lt_iff_toInt_lt] at q1
      rw [hbg] at q2
      rw [h00] at q1
      exact absurd ⟨by omega, q2⟩ h3
    | true =>
      have hs := of_decide_eq_true h2
      have eb : A_runScript (nI n) s w = rO (oI (scrL n s.toInt.toNat n 0 (wz w))) w := by rw [ea2, h2]; rfl
      clear ea2 no
      refine r_if_lt (pc := 13) 25 (by decide) dX7_runScript_13 (fun q => ?_) (fun _ => ?_)
      · have q := Int64.lt_iff_toInt_lt.mp ((lg_cmp_lt _ _).mp q)
        rw [h00] at q
        omega
      refine r_lload2 (pc := 16) dX7_runScript_16 ?_
      refine r_iload1 (pc := 17) dX7_runScript_17 ?_
      refine r_callS1i (pc := 18) lk_X7_329 dX7_runScript_18 (s_behindGroups (by omega)) (by decide) (Nat.le_of_ble_eq_true rfl) ⟨Nat.zero_le _, Nat.zero_le _⟩ ?_
      refine r_lcmp (pc := 21) dX7_runScript_21 ?_
      refine r_if_lt (pc := 22) 36 (by decide) dX7_runScript_22 (fun _ => ?_) (fun q => absurd ((lg_cmp_lt _ _).mpr (Int64.lt_iff_toInt_lt.mpr (by rw [hbg]; exact hs.2))) q)
      have hes := lI_of hs.1
      have hsb : s.toInt.toNat < 9223372036854775808 := by omega
      generalize s.toInt.toNat = sn at *
      subst hes
      refine r_aload0 (pc := 36) dX7_runScript_36 ?_
      refine r_getf (pc := 37) fl_X7_16 dX7_runScript_37 h0 rfl ?_
      refine r_aload0 (pc := 40) dX7_runScript_40 ?_
      refine r_getf (pc := 41) fl_X7_10 dX7_runScript_41 h0 rfl ?_
      refine r_getf (pc := 44) fl_X7_101 dX7_runScript_44 (bget0 rfl) rfl ?_
      refine r_callV1w (pc := 47) lk_X7_284 dX7_runScript_47 h23 (s7_take hF hI hZ)  (by decide) (Nat.le_of_ble_eq_true rfl) ⟨Nat.zero_le _, Nat.zero_le _⟩ (fun M9 h9 => ?_)
      obtain ⟨S1, hI1, rfl⟩ := h9
      refine n_iconst_0 (pc := 50) dX7_runScript_50 ?_
      refine r_istore4 (pc := 51) dX7_runScript_51 rfl ?_
      have lp : ∀ (fu i : Nat) (y : ZS) (S1 : BS) (a5 a6 a7 a8 : Option Value), i + fu = n → InvB S1 y → zOT y → scrL n sn fu i y = scrL n sn n 0 (wz w) →
        G mX7_runScript 8 (.inl true) 1 6 (tFc [xIAE] (bset M 1 S) (A_runScript (nI n) (lI sn) w)) none 0 0 53 [some (.ref 0), some (.int (nI n)), some (.long (lI sn)), none, some (.int (nI i)), a5, a6, a7, a8] [] (bset (bset M 1 S) 23 S1)
        := by
        intro fu
        induction fu with
        | zero =>
          intro i y S1 a5 a6 a7 a8 k1 k3 k4 k5
          have k5 : none = scrL n sn n 0 (wz w) := k5
          rw [← k5] at eb
          have hF1 : FACE (bset (bset M 1 S) 23 S1) w := hF.setT
          refine r_iload4 (pc := 53) dX7_runScript_53 ?_
          refine r_iload1 (pc := 55) dX7_runScript_55 ?_
          refine n_icmp_ge (pc := 56) 113 (by decide) dX7_runScript_56 (by omega) (by omega) (fun hc56 => ?_) (fun hc56 => absurd hc56 (by omega))
          refine r_iconst_m1 (pc := 113) dX7_runScript_113 ?_
          exact p_ireturn (pc := 114) true rfl rfl rfl dX7_runScript_114 (Nat.zero_le _) (Nat.zero_le _) (Or.inl rfl) (tFo eb hF1 (fun i hi => tfr hi))
        | succ fu ih =>
          intro i y S1 a5 a6 a7 a8 k1 k3 k4 k5
          have hF1 : FACE (bset (bset M 1 S) 23 S1) w := hF.setT
          have h01 : bset (bset M 1 S) 23 S1 0 = some (cO 6 [.ref 1, .ref 23, .ref 45, .ref 145, .ref 162]) := hF1.1
          have hpi : 1 ≤ 1000000 ^ (n - 1 - i) ∧ 1000000 ^ (n - 1 - i) ≤ 1000000000000 := by
            have c : n - 1 - i = 0 ∨ n - 1 - i = 1 ∨ n - 1 - i = 2 := by omega
            rcases c with e | e | e <;> rw [e] <;> decide
          have hbi := bgL_lI (n := n - 1 - i) (by omega)
          have hgrp : lI sn / lI (1000000 ^ (n - 1 - i)) - lI sn / lI (1000000 ^ (n - 1 - i)) / 1000000 * 1000000 = lI (sn / 1000000 ^ (n - 1 - i) % 1000000) := by
            have hle : sn / 1000000 ^ (n - 1 - i) ≤ sn := Nat.div_le_self _ _
            rw [lI_div hsb (by omega) (by omega), show (1000000 : Int64) = lI 1000000 from rfl, lI_rem (by omega) (by decide) (by decide)]
          have hg6 : sn / 1000000 ^ (n - 1 - i) % 1000000 < 1000000 := Nat.mod_lt _ (by decide)
          have sc : scrL n sn (fu + 1) i y = if (grpZ y (sn / 1000000 ^ (n - 1 - i) % 1000000)).1 then scrL n sn fu (i + 1) (grpZ y (sn / 1000000 ^ (n - 1 - i) % 1000000)).2 else some i := rfl
          have hti := lI_toInt (n := 1000000 ^ (n - 1 - i)) (by omega)
          have hne : ¬ lI (1000000 ^ (n - 1 - i)) = 0 := by
            intro q
            rw [q, h00] at hti
            omega
          have hgt : 0 < lg_cmp (lI (1000000 ^ (n - 1 - i))) 0 := (lg_cmp_gt _ _).mpr (Int64.lt_iff_toInt_lt.mpr (by rw [hti, h00]; omega))
          refine r_iload4 (pc := 53) dX7_runScript_53 ?_
          refine r_iload1 (pc := 55) dX7_runScript_55 ?_
          refine n_icmp_ge (pc := 56) 113 (by decide) dX7_runScript_56 (by omega) (by omega) (fun hc56 => absurd hc56 (by omega)) (fun hc56 => ?_)
          refine r_iload1 (pc := 59) dX7_runScript_59 ?_
          refine n_iconst_1 (pc := 60) dX7_runScript_60 ?_
          refine n_isub (pc := 61) dX7_runScript_61 (by omega) ?_
          refine r_iload4 (pc := 62) dX7_runScript_62 ?_
          refine n_isub (pc := 64) dX7_runScript_64 (by omega) ?_
          refine r_callS1i (pc := 65) lk_X7_329 dX7_runScript_65 (s_behindGroups (by omega)) (by decide) (Nat.le_of_ble_eq_true rfl) ⟨Nat.zero_le _, Nat.zero_le _⟩ ?_
          rw [hbi]
          refine r_lstore5 (pc := 68) dX7_runScript_68 rfl ?_
          refine r_lload5 (pc := 70) dX7_runScript_70 ?_
          refine r_lconst_0 (pc := 72) dX7_runScript_72 ?_
          refine r_lcmp (pc := 73) dX7_runScript_73 ?_
          refine r_if_le (pc := 74) 88 (by decide) dX7_runScript_74 (fun q => absurd hgt (Int32.not_lt.mpr q)) (fun _ => ?_)
          refine r_lload2 (pc := 77) dX7_runScript_77 ?_
          refine r_lload5 (pc := 78) dX7_runScript_78 ?_
          refine r_ldiv (pc := 80) dX7_runScript_80 hne ?_
          refine r_ldc2 (v := (1000000)) (pc := 81) (tG 985 (by decide +kernel) (by decide +kernel)) dX7_runScript_81 ?_
          refine r_lrem (pc := 84) dX7_runScript_84 (by decide) ?_
          rw [hgrp]
          generalize sn / 1000000 ^ (n - 1 - i) % 1000000 = g at *
          refine r_goto (pc := 85) 89 (by decide) dX7_runScript_85 ?_
          refine r_lstore7 (pc := 89) dX7_runScript_89 rfl ?_
          refine r_aload0 (pc := 91) dX7_runScript_91 ?_
          refine r_getf (pc := 92) fl_X7_16 dX7_runScript_92 h01 rfl ?_
          refine r_lload7 (pc := 95) dX7_runScript_95 ?_
          refine r_l2i (pc := 97) dX7_runScript_97 ?_
          rw [lI_int]
          refine r_callS2x (pc := 98) lk_X7_337 dX7_runScript_98 (s_doGroup (M := bset M 1 S) k3 k4.1 hg6)  (by decide) (Nat.le_of_ble_eq_true rfl) ⟨Nat.zero_le _, Nat.zero_le _⟩ (fun M9 h9 => ?_)
          obtain ⟨S2, q2, rfl⟩ := h9
          refine b_if_ne (pc := 101) 107 (by decide) dX7_runScript_101 (fun h9 => ?_) (fun h9 => ?_)
          · rw [h9] at sc
            refine n_iinc4 (pc := 107) dX7_runScript_107 rfl ?_
            refine r_goto (pc := 110) 53 (by decide) dX7_runScript_110 ?_
            exact ih (i + 1) _ S2 _ _ _ _ (by omega) q2 (grpZ_ot k4 _) (by rw [← k5, sc]; rfl)
          · rw [h9] at sc
            have sc : scrL n sn (fu + 1) i y = some i := sc
            rw [← k5, sc] at eb
            have hF2 : FACE (bset (bset M 1 S) 23 S2) w := hF.setT
            refine r_iload4 (pc := 104) dX7_runScript_104 ?_
            exact p_ireturn (pc := 106) true rfl rfl rfl dX7_runScript_106 (Nat.zero_le _) (Nat.zero_le _) (Or.inl rfl) (tFo eb hF2 (fun i hi => tfr hi))
      exact lp n 0 (wz w) S1 _ _ _ _ (by omega) hI1 hO.1 rfl
theorem s7_keep {S : BS} {i : Nat} (hi : i < 2) (hF : FACE (bset M 1 S) w) (hI : InvB S (wz w)) (hZ : ZOK (wz w)) : SpecP mX4_keep 2 0 0 [.ref 145, .int (nI i), .ref (1 + 1)] (bset M 1 S) (tP none (fun Mf => ∃ M', Mf = bset M' 1 S ∧ FACE Mf (w.1, w.2.1, (fun j => if j = i then some (wz w) else wu w j), w.2.2.2) ∧ ∀ i, 164 ≤ i → Mf i = bset M 1 S i)) := by
  obtain ⟨hs, hs2⟩ := hF.2.2.2.2.1
  refine SpecP_mono (s_keep hs bst_at (by decide) (fun i hi => by obtain ⟨T, h, _⟩ := hs2 i hi; exact ⟨T, h⟩) hi) (fun v Mf h => ?_)
  obtain ⟨h1, T', g, e, hg⟩ := h
  have hq : ∀ j, j < 145 ∨ 164 ≤ j → mset (sset (bset M 1 S) (145 + 3 + 7 * i) (cpS (stOf S) T')) (145 + 2) (cZ 2 g) j = bset M 1 S j := fun j hj => by rw [mset_ne (by omega), sset_out (by omega)]
  refine ⟨h1, Mf, ?_, ?_, fun j hj => ?_⟩
  · rw [e]; exact (bkeep (fun j a b => hq j (by omega))).symm
  · rw [e]; exact FACE.keep hF hi hI.st hZ hg
  · rw [e]; exact hq j (by omega)

set_option maxRecDepth 20000 in
theorem s7_save (hF : FACE M w) (hO : WOK w) {x : Int32} : SpecX mX7_save 8 1 6 [.ref 0, .int x] M (tFc [xIOB] M (A_save x w)) := by
  have hZ := hO.z
  have hd := hZ.dims
  have hn120 := hO.2.2.2.1
  have hk14 := hO.2.1.1
  obtain ⟨M, S, rfl, hI⟩ := hF.board
  have h0 : (bset M 1 S) 0 = some (cO 6 [.ref 1, .ref 23, .ref 45, .ref 145, .ref 162]) := hF.1
  have hX : TXT (bset M 1 S) 162 (wn w) (wf w) := hF.2.2.2.2.2
  refine SpecX_of [some (.ref 0), some (.int x)] (by decide) (Nat.le_of_ble_eq_true rfl) rfl ?_
  obtain ⟨⟨f4, g4, hs4, -⟩, -⟩ := hF.2.2.2.2.1
  have ea : A_save x w = if inR x 2 then rO (iI (erAll (wz w))) (w.1, w.2.1, (fun i => if i = nm x then some (wz w) else wu w i), w.2.2.2) else rN 1 w := rfl
  have no : A_save x w = rN 1 w →
    G mX7_save 8 (.inl true) 1 6 (tFc [xIOB] (bset M 1 S) (A_save x w)) none 0 0 9 [some (.ref 0), some (.int x)] [] (bset M 1 S)
    := by
    intro e
    exact G_throwW (pc := 9) 34 rfl rfl th_151 rfl dX7_save_9 dX7_save_12 dX7_save_13 dX7_save_16 dX7_save_19 (by decide) (by decide) (by decide) (tFx 0 e hF rfl)
  refine r_iload1 (pc := 0) dX7_save_0 ?_
  cases h1 : inR x 2 with
  | false =>
    have eb := no (by rw [ea, h1]; rfl)
    refine r_if_lt (pc := 1) 9 (by decide) dX7_save_1 (fun _ => eb) (fun q1 => ?_)
    refine r_iload1 (pc := 4) dX7_save_4 ?_
    refine n_iconst_2 (pc := 5) dX7_save_5 ?_
    exact r_icmp_lt (pc := 6) 20 (by decide) dX7_save_6 (fun q2 => absurd q2 (inR_le h1 (by decide) q1)) (fun _ => eb)
  | true =>
    have eb : A_save x w = rO (iI (erAll (wz w))) (w.1, w.2.1, (fun i => if i = nm x then some (wz w) else wu w i), w.2.2.2) := by rw [ea, h1]; rfl
    clear ea no
    obtain ⟨c1, c2⟩ := inR_nm h1 (by decide)
    generalize nm x = k at *
    subst c2
    refine n_if_lt (pc := 1) 9 (by decide) dX7_save_1 (by omega) ?_
    refine r_iload1 (pc := 4) dX7_save_4 ?_
    refine n_iconst_2 (pc := 5) dX7_save_5 ?_
    refine n_icmp_lt (pc := 6) 20 (by decide) dX7_save_6 (by omega) (by omega) (fun hc6 => ?_) (fun hc6 => absurd hc6 (by omega))
    refine r_aload0 (pc := 20) dX7_save_20 ?_
    refine r_getf (pc := 21) fl_X7_29 dX7_save_21 h0 rfl ?_
    refine r_iload1 (pc := 24) dX7_save_24 ?_
    refine r_aload0 (pc := 25) dX7_save_25 ?_
    refine r_getf (pc := 26) fl_X7_10 dX7_save_26 h0 rfl ?_
    refine r_getf (pc := 29) fl_X7_101 dX7_save_29 (bget0 rfl) rfl ?_
    refine r_callV2w (pc := 32) lk_X7_353 dX7_save_32 hs4 (s7_keep c1 hF hI hZ)  (by decide) (Nat.le_of_ble_eq_true rfl) ⟨Nat.zero_le _, Nat.zero_le _⟩ (fun M9 h9 => ?_)
    obtain ⟨M2, rfl, hF2, hk2⟩ := h9
    have h0 : bset M2 1 S 0 = some (cO 6 [.ref 1, .ref 23, .ref 45, .ref 145, .ref 162]) := hF2.1
    refine r_aload0 (pc := 35) dX7_save_35 ?_
    refine r_getf (pc := 36) fl_X7_10 dX7_save_36 h0 rfl ?_
    refine r_callV0i (pc := 39) lk_X7_122 dX7_save_39 (bget0 rfl) (s_errorOfAll hI hZ) (by decide) (Nat.le_of_ble_eq_true rfl) ⟨Nat.zero_le _, Nat.zero_le _⟩ ?_
    exact p_ireturn (pc := 42) true rfl rfl rfl dX7_save_42 (Nat.zero_le _) (Nat.zero_le _) (Or.inl rfl) (tFo eb hF2 hk2)
set_option maxRecDepth 20000 in
theorem s7_restore (hF : FACE M w) (hO : WOK w) {x : Int32} : SpecX mX7_restore 8 1 6 [.ref 0, .int x] M (tFc [xIOB, xISE] M (A_restore x w)) := by
  have hZ := hO.z
  have hd := hZ.dims
  have hn120 := hO.2.2.2.1
  have hk14 := hO.2.1.1
  obtain ⟨M, S, rfl, hI⟩ := hF.board
  have h0 : (bset M 1 S) 0 = some (cO 6 [.ref 1, .ref 23, .ref 45, .ref 145, .ref 162]) := hF.1
  have hX : TXT (bset M 1 S) 162 (wn w) (wf w) := hF.2.2.2.2.2
  refine SpecX_of [some (.ref 0), some (.int x)] (by decide) (Nat.le_of_ble_eq_true rfl) rfl ?_
  obtain ⟨o, ho, hs⟩ := hF.2.2.2.1
  have ho : MEM (bset M 1 S) 45 o (wk w) := ho
  have hs : ∀ i, i < 14 → ∃ T, sAt (bset M 1 S) (45 + 2 + 7 * i) T ∧ ∀ j, j < wk w → i = (o + j) % 14 → InvS T (wg w j) := hs
  obtain ⟨hs4, hs5⟩ := hF.2.2.2.2.1
  have hs4 : SLT (bset M 1 S) 145 (fun i => (wu w i).isSome) := hs4
  have hs40 := hs4
  obtain ⟨f4, g4, hs6, -⟩ := hs40
  have ea : A_restore x w = if inR x 2 then (match wu w (nm x) with
    | some y => rO (iI (erAll y)) (y, (0, wg w), w.2.2)
    | none => rN 2 w) else rN 1 w := rfl
  have no : A_restore x w = rN 1 w →
    G mX7_restore 8 (.inl true) 1 6 (tFc [xIOB, xISE] (bset M 1 S) (A_restore x w)) none 0 0 9 [some (.ref 0), some (.int x)] [] (bset M 1 S)
    := by
    intro e
    exact G_throwW (pc := 9) 34 rfl rfl th_151 rfl dX7_restore_9 dX7_restore_12 dX7_restore_13 dX7_restore_16 dX7_restore_19 (by decide) (by decide) (by decide) (tFx 0 e hF rfl)
  refine r_iload1 (pc := 0) dX7_restore_0 ?_
  cases h1 : inR x 2 with
  | false =>
    have eb := no (by rw [ea, h1]; rfl)
    refine r_if_lt (pc := 1) 9 (by decide) dX7_restore_1 (fun _ => eb) (fun q1 => ?_)
    refine r_iload1 (pc := 4) dX7_restore_4 ?_
    refine n_iconst_2 (pc := 5) dX7_restore_5 ?_
    exact r_icmp_lt (pc := 6) 20 (by decide) dX7_restore_6 (fun q2 => absurd q2 (inR_le h1 (by decide) q1)) (fun _ => eb)
  | true =>
    have eb : A_restore x w = (match wu w (nm x) with
      | some y => rO (iI (erAll y)) (y, (0, wg w), w.2.2)
      | none => rN 2 w) := by rw [ea, h1]; rfl
    clear ea no
    obtain ⟨c1, c2⟩ := inR_nm h1 (by decide)
    generalize nm x = k at *
    subst c2
    refine n_if_lt (pc := 1) 9 (by decide) dX7_restore_1 (by omega) ?_
    refine r_iload1 (pc := 4) dX7_restore_4 ?_
    refine n_iconst_2 (pc := 5) dX7_restore_5 ?_
    refine n_icmp_lt (pc := 6) 20 (by decide) dX7_restore_6 (by omega) (by omega) (fun hc6 => ?_) (fun hc6 => absurd hc6 (by omega))
    refine r_aload0 (pc := 20) dX7_restore_20 ?_
    refine r_getf (pc := 21) fl_X7_29 dX7_restore_21 h0 rfl ?_
    refine r_iload1 (pc := 24) dX7_restore_24 ?_
    refine r_callV1i (pc := 25) lk_X7_357 dX7_restore_25 hs6 (s_isFilled hs4 c1) (by decide) (Nat.le_of_ble_eq_true rfl) ⟨Nat.zero_le _, Nat.zero_le _⟩ ?_
    cases hu : wu w k with
    | none =>
      rw [hu] at eb
      refine b_if_ne (b := false) (pc := 28) 42 (by decide) dX7_restore_28 (fun h9 => by cases h9) (fun _ => ?_)
      exact G_throwW (pc := 31) 35 rfl rfl th_55 rfl dX7_restore_31 dX7_restore_34 dX7_restore_35 dX7_restore_38 dX7_restore_41 (by decide) (by decide) (by decide) (tFx 1 eb hF rfl)
    | some y =>
      rw [hu] at eb
      refine b_if_ne (b := true) (pc := 28) 42 (by decide) dX7_restore_28 (fun _ => ?_) (fun h9 => by cases h9)
      have hy := hO.2.2.1 _ _ hu
      have hF2 := hF.pop ho hs (k := 0) (Nat.zero_le _)
      have hb1 : bset (mmset (bset M 1 S) 45 o 0) 1 S = mmset (bset M 1 S) 45 o 0 := bkeep (fun i a b => mm_out (by omega))
      have hk2 : ∀ i, 164 ≤ i → mmset (bset M 1 S) 45 o 0 i = bset M 1 S i := fun i hi => mm_out (by omega)
      have hs4' : SLT (mmset (bset M 1 S) 45 o 0) 145 (fun i => (wu w i).isSome) := hs4.ext (fun i a b => mm_out (by omega))
      have hs6' : mmset (bset M 1 S) 45 o 0 145 = some (cO 3 [.ref (145 + 1), .ref (145 + 2)]) := (mm_out (by decide)).trans hs6
      obtain ⟨T, t1, t2⟩ := hs5 k c1
      have hT := t2 y hu
      have t3 : sAt (mmset (bset M 1 S) 45 o 0) (145 + 3 + 7 * k) T := t1.ext (fun i a b => mm_out (by omega))
      refine r_aload0 (pc := 42) dX7_restore_42 ?_
      refine r_getf (pc := 43) fl_X7_22 dX7_restore_43 h0 rfl ?_
      refine r_callV0v (pc := 46) lk_X7_74 dX7_restore_46 ho.2.2.1 (s_forget ho) (by decide) (Nat.le_of_ble_eq_true rfl) ⟨Nat.zero_le _, Nat.zero_le _⟩ ?_
      generalize hM2 : mmset (bset M 1 S) 45 o 0 = M2 at *
      have htf := s_takeFrom (M := M2) (b := 1) (S := S) (a := 145 + 3 + 7 * k) (T := T) (z := y) (by omega) t3 (by rw [hb1]; exact t3) hT hy.1
      rw [hb1] at htf
      have h0 : M2 0 = some (cO 6 [.ref 1, .ref 23, .ref 45, .ref 145, .ref 162]) := hF2.1
      have hb2 : M2 1 = some (cO 0 [.ref (1 + 1), .int (S.1 0), .int (S.1 1), .int (S.1 2), .int (S.1 3), .ref (1 + 8), .ref (1 + 9), .ref (1 + 10), .ref (1 + 11), .ref (1 + 12), .ref (1 + 13), .ref (1 + 20), .ref (1 + 21)]) := by rw [← hb1]; exact bget0 rfl
      refine r_aload0 (pc := 49) dX7_restore_49 ?_
      refine r_getf (pc := 50) fl_X7_10 dX7_restore_50 h0 rfl ?_
      refine r_aload0 (pc := 53) dX7_restore_53 ?_
      refine r_getf (pc := 54) fl_X7_29 dX7_restore_54 h0 rfl ?_
      refine r_iload1 (pc := 57) dX7_restore_57 ?_
      refine r_callV1i (pc := 58) lk_X7_362 dX7_restore_58 hs6' (s_in hs4' c1) (by decide) (Nat.le_of_ble_eq_true rfl) ⟨Nat.zero_le _, Nat.zero_le _⟩ ?_
      refine r_callV1w (pc := 61) lk_X7_284 dX7_restore_61 hb2 htf  (by decide) (Nat.le_of_ble_eq_true rfl) ⟨Nat.zero_le _, Nat.zero_le _⟩ (fun M9 h9 => ?_)
      obtain ⟨S2, hI2, rfl⟩ := h9
      rw [← hb1] at hF2
      have hF3 := FACE.setB hF2 hI2
      have h0 : bset M2 1 S2 0 = some (cO 6 [.ref 1, .ref 23, .ref 45, .ref 145, .ref 162]) := hF3.1
      refine r_aload0 (pc := 64) dX7_restore_64 ?_
      refine r_getf (pc := 65) fl_X7_10 dX7_restore_65 h0 rfl ?_
      refine r_callV0i (pc := 68) lk_X7_122 dX7_restore_68 (bget0 rfl) (s_errorOfAll hI2 hy.1) (by decide) (Nat.le_of_ble_eq_true rfl) ⟨Nat.zero_le _, Nat.zero_le _⟩ ?_
      exact p_ireturn (pc := 71) true rfl rfl rfl dX7_restore_71 (Nat.zero_le _) (Nat.zero_le _) (Or.inl rfl) (tFo eb hF3 (fun i hi => (bset_out (by omega)).trans (hk2 i hi)))
end CREST

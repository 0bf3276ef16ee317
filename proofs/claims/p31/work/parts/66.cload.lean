theorem lkT_X7_97 : LkT RX7 97 mJ0_length_8abf5 0 := ⟨(tG 669 (by decide +kernel) (by decide +kernel)), (tG 433 (by decide +kernel) (by decide +kernel)), (tG 434 (by decide +kernel) (by decide +kernel)), (tG 31 (by decide +kernel) (by decide +kernel)), (tG 435 (by decide +kernel) (by decide +kernel)), by decide +kernel, by decide +kernel, by decide, rfl⟩
theorem feZ_lt {n : Nat} {f : Nat → Nat} {p : Nat} (hn : n ≤ 120) (he : feZ n f = some p) : p < 2147483648 := by
  unfold feZ at he
  split at he
  · cases hw : fw n f [110, 115] 1 with
    | some q =>
      rw [hw] at he
      cases he
      have := (fw_bound hn hw).2.1
      simp at this; omega
    | none =>
      rw [hw] at he
      have he : feL n f 120 3 = some p := he
      have bound : ∀ fu q, q ≤ 200 → feL n f fu q = some p → p ≤ 2000 := by
        intro fu
        induction fu with
        | zero => intro q h1 h3; cases h3
        | succ fu ih =>
          intro q h1 h3
          by_cases hq : q < n
          · cases hk : cmK (f q) with
            | none => rw [feL_no hq hk] at h3; cases h3; omega
            | some ks =>
              have hkl := cmK_L hk
              have hl5 : ks.length ≤ 5 := by
                rw [← hkl.1]
                unfold cmL
                split <;> (try split) <;> (try split) <;> (try split) <;> (try split) <;> (try split) <;> (try split) <;> omega
              cases hw2 : fw n f ks (q + 1) with
              | some v =>
                rw [feL_bad hq hk hw2] at h3
                cases h3
                have := (fw_bound hn hw2).2.1
                omega
              | none =>
                rw [feL_go hq hk hw2] at h3
                exact ih _ (by omega) h3
          · unfold feL at h3
            rw [if_neg hq] at h3
            cases h3
      have := bound 120 3 (by omega) he
      omega
  · cases he; omega
section CLOAD
variable {M : Mem} {w : WS}
set_option maxRecDepth 20000 in
theorem s7_load (hF : FACE M w) (hO : WOK w) : SpecX mX7_load 8 1 6 [.ref 0] M (tFc [xISE] M (A_load w)) := by
  have hZ := hO.z
  have hd := hZ.dims
  have hn120 := hO.2.2.2.1
  have hk14 := hO.2.1.1
  obtain ⟨M, S, rfl, hI⟩ := hF.board
  have h0 : (bset M 1 S) 0 = some (cO 6 [.ref 1, .ref 23, .ref 45, .ref 145, .ref 162]) := hF.1
  have hX : TXT (bset M 1 S) 162 (wn w) (wf w) := hF.2.2.2.2.2
  refine SpecX_of [some (.ref 0), none, none, none] (by decide) (Nat.le_of_ble_eq_true rfl) rfl ?_
  obtain ⟨o, ho, hs⟩ := hF.2.2.2.1
  have ho : MEM (bset M 1 S) 45 o (wk w) := ho
  have hs : ∀ i, i < 14 → ∃ T, sAt (bset M 1 S) (45 + 2 + 7 * i) T ∧ ∀ j, j < wk w → i = (o + j) % 14 → InvS T (wg w j) := hs
  have hX0 := hX
  obtain ⟨x1, x2, xg, x3, x4, x5⟩ := hX0
  refine r_aload0 (pc := 0) dX7_load_0 ?_
  refine r_getf (pc := 1) fl_X7_36 dX7_load_1 h0 rfl ?_
  refine r_callV0i (pc := 4) lk_X7_68 dX7_load_4 x3 (s_firstError hX) (by decide) (Nat.le_of_ble_eq_true rfl) ⟨Nat.zero_le _, Nat.zero_le _⟩ ?_
  refine r_iconst_m1 (pc := 7) dX7_load_7 ?_
  cases he : feZ (wn w) (wf w) with
  | some p =>
    have ea : A_load w = rN 1 w := by unfold A_load; rw [he]
    refine r_icmp_eq (pc := 8) 21 (by decide) dX7_load_8 (fun h9 => absurd h9 (nI_ne_m1 (feZ_lt x1 he))) (fun _ => ?_)
    exact G_throw (pc := 11) 12 rfl rfl th_55 rfl dX7_load_11 dX7_load_14 dX7_load_15 dX7_load_17 dX7_load_20 (by decide) (by decide) (by decide) (tFx 0 ea hF rfl)
  | none =>
    have ea : A_load w = rO (nI (txZ (wn w) (wf w)).2) ((txZ (wn w) (wf w)).1, (0, wg w), (fun _ => none), wn w, wf w) := by unfold A_load; rw [he]
    obtain ⟨-, ⟨d1, d2, d3, d4⟩, hfe, hfw, -⟩ := txZ_ot he
    have q1 := (fw_none hfw 0 (by decide)).1
    have q2 := (fw_none hfw 1 (by decide)).1
    have q1 : dgT (wn w) (wf w) 1 = (dg (wn w) (wf w) 1 : Int) := q1
    have q2 : dgT (wn w) (wf w) 2 = (dg (wn w) (wf w) 2 : Int) := q2
    refine r_icmp_eq (pc := 8) 21 (by decide) dX7_load_8 (fun _ => ?_) (fun h9 => absurd rfl h9)
    have hF2 := hF.pop ho hs (k := 0) (Nat.zero_le _)
    obtain ⟨⟨f4, g4, hs6, -⟩, -⟩ := hF.2.2.2.2.1
    have hs6' : mmset (bset M 1 S) 45 o 0 145 = some (cO 3 [.ref (145 + 1), .ref (145 + 2)]) := (mm_out (by decide)).trans hs6
    have hsl : SLT (mmset (bset M 1 S) 45 o 0) 145 (fun i => (wu w i).isSome) := hF2.2.2.2.2.1.1
    have h0' : mmset (bset M 1 S) 45 o 0 0 = some (cO 6 [.ref 1, .ref 23, .ref 45, .ref 145, .ref 162]) := hF2.1
    refine r_aload0 (pc := 21) dX7_load_21 ?_
    refine r_getf (pc := 22) fl_X7_22 dX7_load_22 h0 rfl ?_
    refine r_callV0v (pc := 25) lk_X7_74 dX7_load_25 ho.2.2.1 (s_forget ho) (by decide) (Nat.le_of_ble_eq_true rfl) ⟨Nat.zero_le _, Nat.zero_le _⟩ ?_
    refine r_aload0 (pc := 28) dX7_load_28 ?_
    refine r_getf (pc := 29) fl_X7_29 dX7_load_29 h0' rfl ?_
    refine r_callV0w (pc := 32) lk_X7_77 dX7_load_32 hs6' (s_clear hsl)  (by decide) (Nat.le_of_ble_eq_true rfl) ⟨Nat.zero_le _, Nat.zero_le _⟩ (fun M9 h9 => ?_)
    obtain ⟨g, rfl, hg⟩ := h9
    have hF3 := hF2.clear hg
    have hb1 : bset (mset (mmset (bset M 1 S) 45 o 0) (145 + 2) (cZ 2 g)) 1 S = mset (mmset (bset M 1 S) 45 o 0) (145 + 2) (cZ 2 g) := bkeep (fun i a b => by rw [mset_ne (by omega)]; exact mm_out (by omega))
    have hk2 : ∀ i, 164 ≤ i → mset (mmset (bset M 1 S) 45 o 0) (145 + 2) (cZ 2 g) i = bset M 1 S i := fun i hi => by rw [mset_ne (by omega)]; exact mm_out (by omega)
    generalize mset (mmset (bset M 1 S) 45 o 0) (145 + 2) (cZ 2 g) = N at *
    rw [← hb1] at hF3
    have hst := s_start (M := N) (b := 1) (S := S) d1 d2 d3 d4
    rw [hb1] at hst
    have hX3 : TXT N 162 (wn w) (wf w) := by
      have q := hF3.2.2.2.2.2
      rw [hb1] at q
      exact q
    have hX30 := hX3
    obtain ⟨-, -, xg3, y3, y4, y5⟩ := hX30
    have h03 : N 0 = some (cO 6 [.ref 1, .ref 23, .ref 45, .ref 145, .ref 162]) := by
      have q := hF3.1
      rw [hb1] at q
      exact q
    have hb2 : N 1 = some (cO 0 [.ref (1 + 1), .int (S.1 0), .int (S.1 1), .int (S.1 2), .int (S.1 3), .ref (1 + 8), .ref (1 + 9), .ref (1 + 10), .ref (1 + 11), .ref (1 + 12), .ref (1 + 13), .ref (1 + 20), .ref (1 + 21)]) := by rw [← hb1]; exact bget0 rfl
    refine r_aload0 (pc := 35) dX7_load_35 ?_
    refine r_getf (pc := 36) fl_X7_10 dX7_load_36 h03 rfl ?_
    refine r_aload0 (pc := 39) dX7_load_39 ?_
    refine r_getf (pc := 40) fl_X7_36 dX7_load_40 h03 rfl ?_
    refine n_iconst_1 (pc := 43) dX7_load_43 ?_
    refine r_callV1i (pc := 44) lk_X7_80 dX7_load_44 y3 (s_digitAt hX3 (by decide)) (by decide) (Nat.le_of_ble_eq_true rfl) ⟨Nat.zero_le _, Nat.zero_le _⟩ ?_
    rw [q1, ← iI_nat]
    refine r_aload0 (pc := 47) dX7_load_47 ?_
    refine r_getf (pc := 48) fl_X7_36 dX7_load_48 h03 rfl ?_
    refine n_iconst_2 (pc := 51) dX7_load_51 ?_
    refine r_callV1i (pc := 52) lk_X7_80 dX7_load_52 y3 (s_digitAt hX3 (by decide)) (by decide) (Nat.le_of_ble_eq_true rfl) ⟨Nat.zero_le _, Nat.zero_le _⟩ ?_
    rw [q2, ← iI_nat]
    refine r_callV2w (pc := 55) lk_X7_40 dX7_load_55 hb2 hst  (by decide) (Nat.le_of_ble_eq_true rfl) ⟨Nat.zero_le _, Nat.zero_le _⟩ (fun M9 h9 => ?_)
    obtain ⟨S2, hI2, rfl⟩ := h9
    refine n_iconst_0 (pc := 58) dX7_load_58 ?_
    refine r_istore1 (pc := 59) dX7_load_59 rfl ?_
    refine n_iconst_3 (pc := 60) dX7_load_60 ?_
    refine r_istore2 (pc := 61) dX7_load_61 rfl ?_
    refine n_iconst_0 (pc := 62) dX7_load_62 ?_
    refine r_istore3 (pc := 63) dX7_load_63 rfl ?_
    have lp : ∀ (fu i p o9 : Nat) (y : ZS) (S1 : BS), i + fu = 120 → p ≤ 200 → feL (wn w) (wf w) fu p = none → InvB S1 y → zOT y → exL (wn w) (wf w) fu p y o9 = txZ (wn w) (wf w) →
      G mX7_load 8 (.inl true) 1 6 (tFc [xISE] (bset M 1 S) (A_load w)) none 0 0 64 [some (.ref 0), some (.int (nI o9)), some (.int (nI p)), some (.int (nI i))] [] (bset N 1 S1)
      := by
      intro fu
      induction fu with
      | zero =>
        intro i p o9 y S1 k1 k2 k3 k4 k5 k6
        have k6 : (y, o9) = txZ (wn w) (wf w) := k6
        rw [← k6] at ea
        have hF4 := FACE.setB hF3 k4
        refine r_iload3 (pc := 64) dX7_load_64 ?_
        refine n_bipush (pc := 65) 120 (by decide) dX7_load_65 ?_
        refine n_icmp_ge (pc := 67) 127 (by decide) dX7_load_67 (by omega) (by omega) (fun hc67 => ?_) (fun hc67 => absurd hc67 (by omega))
        refine r_iload1 (pc := 127) dX7_load_127 ?_
        exact p_ireturn (pc := 128) true rfl rfl rfl dX7_load_128 (Nat.zero_le _) (Nat.zero_le _) (Or.inl rfl) (tFo ea hF4 (fun i hi => (bset_out (by omega)).trans (hk2 i hi)))
      | succ fu ih =>
        intro i p o9 y S1 k1 k2 k3 k4 k5 k6
        have hF4 := FACE.setB hF3 k4
        have h04 : bset N 1 S1 0 = some (cO 6 [.ref 1, .ref 23, .ref 45, .ref 145, .ref 162]) := hF4.1
        have hX4 : TXT (bset N 1 S1) 162 (wn w) (wf w) := hF4.2.2.2.2.2
        have hX40 := hX4
        obtain ⟨-, -, xg4, z3, z4, z5⟩ := hX40
        refine r_iload3 (pc := 64) dX7_load_64 ?_
        refine n_bipush (pc := 65) 120 (by decide) dX7_load_65 ?_
        refine n_icmp_ge (pc := 67) 127 (by decide) dX7_load_67 (by omega) (by omega) (fun hc67 => absurd hc67 (by omega)) (fun hc67 => ?_)
        refine r_iload2 (pc := 70) dX7_load_70 ?_
        refine r_aload0 (pc := 71) dX7_load_71 ?_
        refine r_getf (pc := 72) fl_X7_36 dX7_load_72 h04 rfl ?_
        refine r_getf (pc := 75) fl_X7_64 dX7_load_75 z3 rfl ?_
        refine n_icmp_ge (pc := 78) 127 (by decide) dX7_load_78 (by omega) (by omega) (fun h9 => ?_) (fun h9 => ?_)
        · rw [exL_stop (by omega)] at k6
          rw [← k6] at ea
          refine r_iload1 (pc := 127) dX7_load_127 ?_
          exact p_ireturn (pc := 128) true rfl rfl rfl dX7_load_128 (Nat.zero_le _) (Nat.zero_le _) (Or.inl rfl) (tFo ea hF4 (fun i hi => (bset_out (by omega)).trans (hk2 i hi)))
        · cases hk : cmK (wf w p) with
          | none => rw [feL_no h9 hk] at k3; cases k3
          | some ks =>
            cases hw : fw (wn w) (wf w) ks (p + 1) with
            | some v => rw [feL_bad h9 hk hw] at k3; cases k3
            | none =>
              rw [feL_go h9 hk hw] at k3
              rw [exL_go h9] at k6
              have hkl := cmK_L hk
              have hd9 : ∀ i, 1 ≤ i → i ≤ cmL (wf w p) → dgT (wn w) (wf w) (p + i) = (dg (wn w) (wf w) (p + i) : Int) ∧ dg (wn w) (wf w) (p + i) ≤ 9 := by
                intro i hi hi2
                have q := fw_none hw (i - 1) (by omega)
                rw [show p + 1 + (i - 1) = p + i by omega] at q
                exact ⟨q.1, q.2.1⟩
              have hl5 : ks.length ≤ 5 := by
                rw [← hkl.1]
                unfold cmL
                split <;> (try split) <;> (try split) <;> (try split) <;> (try split) <;> (try split) <;> (try split) <;> omega
              have hcot : zOT (cmdZ y (wf w p) (fun i => dg (wn w) (wf w) (p + i))).2 := ⟨cmdZ_ok k5.1 _ _ (fun i hi hi2 => (hd9 i hi hi2).2), cmdZ_tok k5.1 k5.2 _ _⟩
              have hcmd := s_doInText (M := N) (b := 1) (t := 162) (from_ := p) (c := wf w p) (d := fun i => dg (wn w) (wf w) (p + i)) k4 k5.1 hX4 h9 rfl (fun q => hkl.2.1 (by have := hkl.1; exact List.eq_nil_of_length_eq_zero (by omega))) hd9
              have step : ∀ (v : Nat) (S9 : BS), v = (if (cmdZ y (wf w p) (fun i => dg (wn w) (wf w) (p + i))).1 then 0 else 1) → InvB S9 (cmdZ y (wf w p) (fun i => dg (wn w) (wf w) (p + i))).2 →
                G mX7_load 8 (.inl true) 1 6 (tFc [xISE] (bset M 1 S) (A_load w)) none 0 0 102 [some (.ref 0), some (.int (nI o9)), some (.int (nI p)), some (.int (nI i))] [.int (nI v), .int (nI o9)] (bset N 1 S9)
                := by
                intro v S9 hv k7
                rw [← hv] at k6
                have hF5 := FACE.setB hF3 k7
                have h05 : bset N 1 S9 0 = some (cO 6 [.ref 1, .ref 23, .ref 45, .ref 145, .ref 162]) := hF5.1
                have hX5 : TXT (bset N 1 S9) 162 (wn w) (wf w) := hF5.2.2.2.2.2
                have hX50 := hX5
                obtain ⟨-, -, xg5, w3, w4, w5⟩ := hX50
                have ech : chT (wn w) (wf w) p = (wf w p : Int) := if_pos h9
                have hfp := x2 p h9
                first | refine n_iadd (pc := 102) dX7_load_102 ?_ | refine z_iadd (pc := 102) dX7_load_102 ?_ | refine r_iadd (pc := 102) dX7_load_102 ?_
                refine r_istore1 (pc := 103) dX7_load_103 rfl ?_
                refine r_iload2 (pc := 104) dX7_load_104 ?_
                refine r_aload0 (pc := 105) dX7_load_105 ?_
                refine r_getf (pc := 106) fl_X7_36 dX7_load_106 h05 rfl ?_
                refine r_iload2 (pc := 109) dX7_load_109 ?_
                refine r_callV1i (pc := 110) lk_X7_90 dX7_load_110 w3 (s_signAt hX5 (by omega)) (by decide) (Nat.le_of_ble_eq_true rfl) ⟨Nat.zero_le _, Nat.zero_le _⟩ ?_
                rw [ech, ← iI_nat]
                refine r_callS1i (pc := 113) lk_X7_93 dX7_load_113 (s_formOf hfp) (by decide) (Nat.le_of_ble_eq_true rfl) ⟨Nat.zero_le _, Nat.zero_le _⟩ ?_
                rcases kkC_cases (wf w p) with ⟨q1, q2, q3⟩ | ⟨q1, q2⟩
                · have hk10 : kkC (wf w p) < 10 := by omega
                  have hkl2 := ksS_len q3
                  have eks : ks = ksS (kkC (wf w p)) := by rw [hk] at q1; exact Option.some.inj q1
                  refine r_callT0i (pc := 116) lkT_X7_97 dX7_load_116 hk10 (s_strLen hk10 hkl2) (by decide) (Nat.le_of_ble_eq_true rfl) ⟨Nat.zero_le _, Nat.zero_le _⟩ ?_
                  first | refine n_iadd (pc := 119) dX7_load_119 ?_ | refine z_iadd (pc := 119) dX7_load_119 ?_ | refine r_iadd (pc := 119) dX7_load_119 ?_
                  refine r_istore2 (pc := 120) dX7_load_120 rfl ?_
                  refine n_iinc3 (pc := 121) dX7_load_121 rfl ?_
                  refine r_goto (pc := 124) 64 (by decide) dX7_load_124 ?_
                  rw [show p + ((ksS (kkC (wf w p))).length + 1) = p + 1 + cmL (wf w p) by rw [hkl.1, eks]; omega]
                  exact ih (i + 1) _ _ _ S9 (by omega) (by rw [hkl.1]; omega) (by rw [hkl.1]; exact k3) k7 hcot k6
                · rw [hk] at q1; cases q1
              refine r_iload1 (pc := 81) dX7_load_81 ?_
              refine r_aload0 (pc := 82) dX7_load_82 ?_
              refine r_getf (pc := 83) fl_X7_10 dX7_load_83 h04 rfl ?_
              refine r_aload0 (pc := 86) dX7_load_86 ?_
              refine r_getf (pc := 87) fl_X7_36 dX7_load_87 h04 rfl ?_
              refine r_iload2 (pc := 90) dX7_load_90 ?_
              refine r_callS3x (pc := 91) lk_X7_84 dX7_load_91 hcmd  (by decide) (Nat.le_of_ble_eq_true rfl) ⟨Nat.zero_le _, Nat.zero_le _⟩ (fun M9 h9 => ?_)
              obtain ⟨S9, k7, rfl⟩ := h9
              refine b_if_eq (pc := 94) 101 (by decide) dX7_load_94 (fun h8 => ?_) (fun h8 => ?_)
              · refine n_iconst_1 (pc := 101) dX7_load_101 ?_
                exact step 1 S9 (by rw [h8]; rfl) k7
              · refine n_iconst_0 (pc := 97) dX7_load_97 ?_
                refine r_goto (pc := 98) 102 (by decide) dX7_load_98 ?_
                exact step 0 S9 (by rw [h8]; rfl) k7
    exact lp 120 0 3 0 _ S2 (by omega) (by omega) hfe hI2 ⟨startZ_ok d1 d2 d3 d4, startZ_tok _ _⟩ rfl
end CLOAD

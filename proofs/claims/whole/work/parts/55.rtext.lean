theorem one_rng {c lo hi n p : Nat} {f : Nat → Nat} (hc : (c, lo, hi) ∈ oneD) (hw : fw n f [c] p = none) : lo ≤ dg n f p ∧ dg n f p ≤ hi := by
  have h := (okd_one hc).mpr hw
  obtain ⟨-, -, h3, h4⟩ := h
  omega
section RTEXT
variable {M : Mem} {b : Nat} {S : BS} {n : Nat} {f : Nat → Nat}
def tX (M : Mem) (b : Nat) (S : BS) (n : Nat) (f : Nat → Nat) : TG := tP (some (.int (oI (feZ n f)))) (fun Mf => ∃ S', KS S S' ∧ (feZ n f = none → InvR (S'.2 2) (txZ n f).1 ∧ ZOK (txZ n f).1 ∧ TOK (txZ n f).1 ∧ S'.1 7 = nI (txZ n f).2) ∧ Mf = kset M b S')
set_option maxRecDepth 20000 in
theorem s8_readText (hT : TXm S n f) : SpecP mX8_readText 11 0 0 [.ref b, .ref (b + 3)] (kset M b S) (tX M b S n f) := by
  have hn := hT.1
  refine Spec_of [some (.ref b), some (.ref (b + 3)), none, none] (by decide) (Nat.le_of_ble_eq_true rfl) rfl ?_
  refine r_aload0 (pc := 0) dX8_readText_0 ?_
  refine n_iconst_0 (pc := 1) dX8_readText_1 ?_
  refine r_putfI (pc := 2) fl_X8_176 dX8_readText_2 (kget0 rfl) (Nat.le_of_ble_eq_true rfl) ?_
  refine G_M bii_X8_14 ?_
  refine r_aload0 (pc := 5) dX8_readText_5 ?_
  refine n_iconst_0 (pc := 6) dX8_readText_6 ?_
  refine r_putfI (pc := 7) fl_X8_171 dX8_readText_7 (kget0 rfl) (Nat.le_of_ble_eq_true rfl) ?_
  refine G_M bii_X8_13 ?_
  have hT0 : TXm (ii (ii S 7 (nI 0)) 6 (nI 0)) n f := hT
  have K0 : KS S (ii (ii S 7 (nI 0)) 6 (nI 0)) := ((KS.rf S).ii (by omega) _).ii (by omega) _
  have hs := hT0.2.2.1
  have zero : feZ n f = some 0 →
    G mX8_readText 11 (.inl false) 0 0 (tX M b S n f) none 0 0 28 [some (.ref b), some (.ref (b + 3)), none, none] [] (kset M b (ii (ii S 7 (nI 0)) 6 (nI 0)))
    := by
    intro e
    refine n_iconst_0 (pc := 28) dX8_readText_28 ?_
    exact p_ireturn (pc := 29) false rfl rfl rfl dX8_readText_29 (Nat.zero_le _) (Nat.zero_le _) (Or.inl rfl) ⟨by rw [e]; rfl, _, K0, fun q => (by rw [e] at q; cases q), rfl⟩
  refine r_aload0 (pc := 10) dX8_readText_10 ?_
  refine r_getf (pc := 11) fl_X8_164 dX8_readText_11 (kget0 rfl) rfl ?_
  rw [hs]
  refine n_if_eq (pc := 14) 28 (by decide) dX8_readText_14 (by omega) (fun h1 => zero ?_) (fun h1 => ?_)
  · unfold feZ chT
    rw [if_neg (show ¬ (0 : Nat) < n by omega)]
    exact if_neg (by decide)
  · have hf0 := hT.2.1 0 (by omega)
    refine r_aload0 (pc := 17) dX8_readText_17 ?_
    refine r_getf (pc := 18) fl_X8_7 dX8_readText_18 (kget0 rfl) rfl ?_
    refine n_iconst_0 (pc := 21) dX8_readText_21 ?_
    refine n_iald (pc := 22) dX8_readText_22 (kget rfl) (by omega) (by decide) (hT0.2.2.2 0 (by omega)) ?_
    refine n_bipush (pc := 23) 68 (by decide) dX8_readText_23 ?_
    refine n_icmp_eq (pc := 25) 30 (by decide) dX8_readText_25 (by omega) (by omega) (fun h2 => ?_) (fun h2 => zero ?_)
    · have ech : chT n f 0 = 68 := by unfold chT; rw [if_pos (by omega), h2]; rfl
      have efe : feZ n f = match fw n f [110, 115] 1 with
        | some w => some w
        | none => feL n f 120 3 := if_pos ech
      have hT1 : TXm (ii (ii S 7 (nI 0)) 6 (nI 1)) n f := hT
      have bad : ∀ w, feZ n f = some w → w ≤ 200 → ∀ l2,
        G mX8_readText 11 (.inl false) 0 0 (tX M b S n f) none 0 0 54 [some (.ref b), some (.ref (b + 3)), l2, some (.int (-1))] [] (kset M b (ii (ii S 7 (nI 0)) 6 (nI w)))
        := by
        intro w e hw2 l2
        have h6 : (ii (ii S 7 (nI 0)) 6 (nI w)).1 6 = nI w := rfl
        refine r_iload3 (pc := 54) dX8_readText_54 ?_
        refine r_iconst_m1 (pc := 55) dX8_readText_55 ?_
        refine r_icmp_ne (pc := 56) 64 (by decide) dX8_readText_56 (fun h9 => absurd rfl h9) (fun _ => ?_)
        refine r_aload0 (pc := 59) dX8_readText_59 ?_
        refine r_getf (pc := 60) fl_X8_171 dX8_readText_60 (kget0 rfl) rfl ?_
        rw [h6]
        exact p_ireturn (pc := 63) false rfl rfl rfl dX8_readText_63 (Nat.zero_le _) (Nat.zero_le _) (Or.inl rfl) ⟨by rw [e]; rfl, _, ((KS.rf S).ii (by omega) _).ii (by omega) _, fun q => (by rw [e] at q; cases q), rfl⟩
      refine r_aload0 (pc := 30) dX8_readText_30 ?_
      refine n_iconst_1 (pc := 31) dX8_readText_31 ?_
      refine r_putfI (pc := 32) fl_X8_171 dX8_readText_32 (kget0 rfl) (Nat.le_of_ble_eq_true rfl) ?_
      refine G_M bii_X8_13 ?_
      rw [ii_ii]
      cases hw : fw n f [110, 115] 1 with
      | some w =>
        rw [hw] at efe
        have hwb := fw_bound hn hw
        rcases fw_ss (as := [110]) (bs := [115]) hw with w1 | ⟨w1, w2⟩
        · refine r_aload0 (pc := 35) dX8_readText_35 ?_
          refine n_iconst_0 (pc := 36) dX8_readText_36 ?_
          refine n_iconst_1 (pc := 37) dX8_readText_37 ?_
          refine n_iconst_2 (pc := 38) dX8_readText_38 ?_
          refine n_bipush (pc := 39) 6 (by decide) dX8_readText_39 ?_
          refine r_callV4i (pc := 41) lk_X8_191 dX8_readText_41 (kget0 rfl) (s8_fig1N hT1 d1n (p := 1) rfl (by omega) (by omega) w1) (by decide) (Nat.le_of_ble_eq_true rfl) ⟨Nat.zero_le _, Nat.zero_le _⟩ ?_
          refine r_istore2 (pc := 44) dX8_readText_44 rfl ?_
          rw [ii_ii]
          refine r_aload0 (pc := 45) dX8_readText_45 ?_
          refine r_iload2 (pc := 46) dX8_readText_46 ?_
          refine n_iconst_1 (pc := 47) dX8_readText_47 ?_
          refine n_iconst_1 (pc := 48) dX8_readText_48 ?_
          refine n_iconst_2 (pc := 49) dX8_readText_49 ?_
          refine r_callV4i (pc := 50) lk_X8_191 dX8_readText_50 (kget0 rfl) (s8_figNo (by omega)) (by decide) (Nat.le_of_ble_eq_true rfl) ⟨Nat.zero_le _, Nat.zero_le _⟩ ?_
          refine r_istore3 (pc := 53) dX8_readText_53 rfl ?_
          exact bad w efe (by have := hwb.2.1; simp at this; omega) _
        · have b1 := dg_9 w1
          have w2 : fw n f [115] 2 = some w := w2
          refine r_aload0 (pc := 35) dX8_readText_35 ?_
          refine n_iconst_0 (pc := 36) dX8_readText_36 ?_
          refine n_iconst_1 (pc := 37) dX8_readText_37 ?_
          refine n_iconst_2 (pc := 38) dX8_readText_38 ?_
          refine n_bipush (pc := 39) 6 (by decide) dX8_readText_39 ?_
          refine r_callV4i (pc := 41) lk_X8_191 dX8_readText_41 (kget0 rfl) (s8_fig1 hT1 d1n (p := 1) rfl (by omega) (by omega) w1) (by decide) (Nat.le_of_ble_eq_true rfl) ⟨Nat.zero_le _, Nat.zero_le _⟩ ?_
          refine r_istore2 (pc := 44) dX8_readText_44 rfl ?_
          rw [ii_ii]
          have hT2 : TXm (ii (ii S 7 (nI 0)) 6 (nI (1 + 1))) n f := hT
          refine r_aload0 (pc := 45) dX8_readText_45 ?_
          refine r_iload2 (pc := 46) dX8_readText_46 ?_
          refine n_iconst_1 (pc := 47) dX8_readText_47 ?_
          refine n_iconst_1 (pc := 48) dX8_readText_48 ?_
          refine n_iconst_2 (pc := 49) dX8_readText_49 ?_
          refine r_callV4i (pc := 50) lk_X8_191 dX8_readText_50 (kget0 rfl) (s8_fig1N hT2 d1s (p := 2) rfl (by omega) (by omega) w2) (by decide) (Nat.le_of_ble_eq_true rfl) ⟨Nat.zero_le _, Nat.zero_le _⟩ ?_
          refine r_istore3 (pc := 53) dX8_readText_53 rfl ?_
          rw [ii_ii]
          exact bad w efe (by have := hwb.2.1; simp at this; omega) _
      | none =>
        rw [hw] at efe
        have efe : feZ n f = feL n f 120 3 := efe
        obtain ⟨w1, w2⟩ := fw_nn (as := [110]) (bs := [115]) hw
        have w2 : fw n f [115] 2 = none := w2
        have r1 := one_rng d1n w1
        have r2 := one_rng d1s w2
        refine r_aload0 (pc := 35) dX8_readText_35 ?_
        refine n_iconst_0 (pc := 36) dX8_readText_36 ?_
        refine n_iconst_1 (pc := 37) dX8_readText_37 ?_
        refine n_iconst_2 (pc := 38) dX8_readText_38 ?_
        refine n_bipush (pc := 39) 6 (by decide) dX8_readText_39 ?_
        refine r_callV4i (pc := 41) lk_X8_191 dX8_readText_41 (kget0 rfl) (s8_fig1 hT1 d1n (p := 1) rfl (by omega) (by omega) w1) (by decide) (Nat.le_of_ble_eq_true rfl) ⟨Nat.zero_le _, Nat.zero_le _⟩ ?_
        refine r_istore2 (pc := 44) dX8_readText_44 rfl ?_
        rw [ii_ii]
        have hT2 : TXm (ii (ii S 7 (nI 0)) 6 (nI (1 + 1))) n f := hT
        refine r_aload0 (pc := 45) dX8_readText_45 ?_
        refine r_iload2 (pc := 46) dX8_readText_46 ?_
        refine n_iconst_1 (pc := 47) dX8_readText_47 ?_
        refine n_iconst_1 (pc := 48) dX8_readText_48 ?_
        refine n_iconst_2 (pc := 49) dX8_readText_49 ?_
        refine r_callV4i (pc := 50) lk_X8_191 dX8_readText_50 (kget0 rfl) (s8_fig1 hT2 d1s (p := 2) rfl (by omega) (by omega) w2) (by decide) (Nat.le_of_ble_eq_true rfl) ⟨Nat.zero_le _, Nat.zero_le _⟩ ?_
        refine r_istore3 (pc := 53) dX8_readText_53 rfl ?_
        refine r_iload3 (pc := 54) dX8_readText_54 ?_
        refine r_iconst_m1 (pc := 55) dX8_readText_55 ?_
        rw [ii_ii]
        refine r_icmp_ne (pc := 56) 64 (by decide) dX8_readText_56 (fun _ => ?_) (fun h9 => absurd h9 (nI_ne_m1 (by omega)))
        refine r_aload1 (pc := 64) dX8_readText_64 ?_
        refine r_iload2 (pc := 65) dX8_readText_65 ?_
        refine r_iload3 (pc := 66) dX8_readText_66 ?_
        refine r_callS3w (pc := 67) lk_X8_32 dX8_readText_67 (hK2.to (M := M) (b := b) (S := ii (ii S 7 (nI 0)) 6 (nI (2 + 1))) (s8_start r1.1 r1.2 r2.1 r2.2))  (by decide) (Nat.le_of_ble_eq_true rfl) ⟨Nat.zero_le _, Nat.zero_le _⟩ (fun M9 h9 => ?_)
        obtain ⟨f', hI', rfl⟩ := h9
        have lp : ∀ (fu p o : Nat) (z : ZS) (S' : BS), n ≤ p + fu → KS S S' → InvR (S'.2 2) z → ZOK z → TOK z → S'.1 6 = nI p → S'.1 7 = nI o → feL n f fu p = feZ n f → exL n f fu p z o = txZ n f → p < 200 →
          G mX8_readText 11 (.inl false) 0 0 (tX M b S n f) none 0 0 70 [some (.ref b), some (.ref (b + 3)), some (.int (nI (dg n f 1))), some (.int (nI (dg n f 2)))] [] (kset M b S')
          := by
          intro fu
          induction fu with
          | zero =>
            intro p o z S' h1 h2 h3 h4 h5 h6 h7 h8 h9 h10
            have hs := (h2.tx hT).2.2.1
            have h8 : none = feZ n f := h8
            have h9 : (z, o) = txZ n f := h9
            refine r_aload0 (pc := 70) dX8_readText_70 ?_
            refine r_getf (pc := 71) fl_X8_171 dX8_readText_71 (kget0 rfl) rfl ?_
            rw [h6]
            refine r_aload0 (pc := 74) dX8_readText_74 ?_
            refine r_getf (pc := 75) fl_X8_164 dX8_readText_75 (kget0 rfl) rfl ?_
            rw [hs]
            refine n_icmp_ge (pc := 78) 94 (by decide) dX8_readText_78 (by omega) (by omega) (fun hc78 => ?_) (fun hc78 => absurd hc78 (by omega))
            refine r_iconst_m1 (pc := 94) dX8_readText_94 ?_
            exact p_ireturn (pc := 95) false rfl rfl rfl dX8_readText_95 (Nat.zero_le _) (Nat.zero_le _) (Or.inl rfl) ⟨by rw [← h8]; rfl, S', h2, fun _ => (by rw [← h9]; exact ⟨h3, h4, h5, h7⟩), rfl⟩
          | succ fu ih =>
            intro p o z S' h1 h2 h3 h4 h5 h6 h7 h8 h9 h10
            have hT' := h2.tx hT
            have hs := hT'.2.2.1
            have back : ∀ (w : Nat) (S2 : BS), KS S S2 → S2.1 6 = nI w → feZ n f = some w →
              G mX8_readText 11 (.inl false) 0 0 (tX M b S n f) none 0 0 86 [some (.ref b), some (.ref (b + 3)), some (.int (nI (dg n f 1))), some (.int (nI (dg n f 2)))] [.int (bI false)] (kset M b S2)
              := by
              intro w S2 k1 k2 k3
              refine b_if_ne (b := false) (pc := 86) 70 (by decide) dX8_readText_86 (fun h => by cases h) (fun _ => ?_)
              refine r_aload0 (pc := 89) dX8_readText_89 ?_
              refine r_getf (pc := 90) fl_X8_171 dX8_readText_90 (kget0 rfl) rfl ?_
              rw [k2]
              exact p_ireturn (pc := 93) false rfl rfl rfl dX8_readText_93 (Nat.zero_le _) (Nat.zero_le _) (Or.inl rfl) ⟨by rw [k3]; rfl, S2, k1, fun q => (by rw [k3] at q; cases q), rfl⟩
            by_cases hp : p < n
            · have hs2 := hs
              refine r_aload0 (pc := 70) dX8_readText_70 ?_
              refine r_getf (pc := 71) fl_X8_171 dX8_readText_71 (kget0 rfl) rfl ?_
              rw [h6]
              refine r_aload0 (pc := 74) dX8_readText_74 ?_
              refine r_getf (pc := 75) fl_X8_164 dX8_readText_75 (kget0 rfl) rfl ?_
              rw [hs]
              refine n_icmp_ge (pc := 78) 94 (by decide) dX8_readText_78 (by omega) (by omega) (fun hc78 => absurd hc78 (by omega)) (fun hc78 => ?_)
              cases hk : cmK (f p) with
              | none =>
                refine r_aload0 (pc := 81) dX8_readText_81 ?_
                refine r_aload1 (pc := 82) dX8_readText_82 ?_
                refine r_callV1i (pc := 83) lk_X8_228 dX8_readText_83 (kget0 rfl) (s8_rcBad hT' h6 hp hk) (by decide) (Nat.le_of_ble_eq_true rfl) ⟨Nat.zero_le _, Nat.zero_le _⟩ ?_
                exact back p S' h2 h6 (by rw [← h8]; exact feL_no hp hk)
              | some ks =>
                have hkl := cmK_L hk
                cases hw : fw n f ks (p + 1) with
                | some w =>
                  refine r_aload0 (pc := 81) dX8_readText_81 ?_
                  refine r_aload1 (pc := 82) dX8_readText_82 ?_
                  refine r_callV1i (pc := 83) lk_X8_228 dX8_readText_83 (kget0 rfl) (s8_rcNo hT' h6 hp hk hw) (by decide) (Nat.le_of_ble_eq_true rfl) ⟨Nat.zero_le _, Nat.zero_le _⟩ ?_
                  exact back w _ (h2.ii (by omega) _) rfl (by rw [← h8]; exact feL_bad hp hk hw)
                | none =>
                  have hl5 : ks.length ≤ 5 := by
                    rw [← hkl.1]
                    unfold cmL
                    split <;> (try split) <;> (try split) <;> (try split) <;> (try split) <;> (try split) <;> (try split) <;> omega
                  have e1 := feL_go (fu := fu) hp hk hw
                  have e2 := exL_go (n := n) (f := f) (p := p) (fu := fu) (o := o) (z := z) hp
                  rw [hkl.1] at e2
                  have hdig : ∀ i, 1 ≤ i → i ≤ cmL (f p) → dg n f (p + i) ≤ 9 := fun i hi hi2 => by
                    have := (fw_none hw (i - 1) (by omega)).2.1
                    rw [show p + 1 + (i - 1) = p + i by omega] at this
                    exact this
                  refine r_aload0 (pc := 81) dX8_readText_81 ?_
                  refine r_aload1 (pc := 82) dX8_readText_82 ?_
                  refine r_callV1x (pc := 83) lk_X8_228 dX8_readText_83 (kget0 rfl) (s8_rcOk hT' h3 h4 h5 h6 h7 hp hk hw)  (by decide) (Nat.le_of_ble_eq_true rfl) ⟨Nat.zero_le _, Nat.zero_le _⟩ (fun M9 h9 => ?_)
                  obtain ⟨S2, k1, k2, k3, k4, rfl⟩ := h9
                  refine b_if_ne (b := true) (pc := 86) 70 (by decide) dX8_readText_86 (fun _ => ?_) (fun h => by cases h)
                  exact ih (p + 1 + ks.length) _ _ S2 (by omega) (h2.tr k1) k2 (cmdZ_ok h4 _ _ hdig) (cmdZ_tok h4 h5 _ _) k3 k4 (by rw [← h8, e1]) (by rw [← h9, e2]) (by omega)
            · have hs2 := hs
              have e1 : feZ n f = none := by rw [← h8]; exact feL_stop hp _
              have e2 : txZ n f = (z, o) := by rw [← h9]; exact exL_stop hp _
              refine r_aload0 (pc := 70) dX8_readText_70 ?_
              refine r_getf (pc := 71) fl_X8_171 dX8_readText_71 (kget0 rfl) rfl ?_
              rw [h6]
              refine r_aload0 (pc := 74) dX8_readText_74 ?_
              refine r_getf (pc := 75) fl_X8_164 dX8_readText_75 (kget0 rfl) rfl ?_
              rw [hs]
              refine n_icmp_ge (pc := 78) 94 (by decide) dX8_readText_78 (by omega) (by omega) (fun hc78 => ?_) (fun hc78 => absurd hc78 (by omega))
              refine r_iconst_m1 (pc := 94) dX8_readText_94 ?_
              exact p_ireturn (pc := 95) false rfl rfl rfl dX8_readText_95 (Nat.zero_le _) (Nat.zero_le _) (Or.inl rfl) ⟨by rw [e1]; rfl, S', h2, fun _ => (by rw [e2]; exact ⟨h3, h4, h5, h7⟩), rfl⟩
        refine lp 120 3 0 _ _ (by omega) ((((KS.rf S).ii (by omega) _).ii (by omega) _).i2 f') hI' (startZ_ok r1.1 r1.2 r2.1 r2.2) (startZ_tok _ _) rfl rfl efe.symm rfl (by omega)
    · unfold feZ chT
      rw [if_pos (show (0 : Nat) < n by omega)]
      exact if_neg (by omega)
end RTEXT

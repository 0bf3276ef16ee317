theorem r_ldcw {q : MI} {d : Nat} {x : XM} {mc ms : Nat} {oc : TG} {al : Option Nat} {cs ss pc : Nat} {lv : List (Option Value)} {st : List Value} {M : Mem} {i : Nat} {v : Int32} (hw : Cond.constant q.1.cls i v ∈ tblG) (h0 : dec q pc = .ok (.ldc_w i, 3)) (k : G q d x mc ms oc al cs ss (pc + 3) lv (.int v :: st) M) : G q d x mc ms oc al cs ss pc lv st M := by
  intro p l e R s m args below meth c H locs Q D nx nz ad ca A ls C hd hP hS hal hl
  obtain ⟨hx, hb, hml, hr, hown, hts, hK, hE, hA, hJ, hAd, hlk, hst, hRm, hmd⟩ := id C
  exact lv_ldcw hx hb hown (hts _ hw) h0 (k p l e R s m args below meth c H locs Q D nx nz ad ca A ls C hd hP hS hal hl)
theorem zN_al {z : ZS} (h : ZOK z) {k : Nat} (hk : k < zt z) : (al z k = true ↔ lz z k = 1) := by
  rcases al_iff h hk with ⟨a1, a2, a3, a4⟩ | ⟨a1, a2, a4⟩
  · exact ⟨fun _ => a4, fun _ => a1⟩
  · constructor
    · intro q; rw [a1] at q; cases q
    · intro q; omega
theorem zN_succ (p : Nat → Bool) (n : Nat) : zN p (n + 1) = zN p n + (if p n then 1 else 0) := rfl
theorem prS_blk {z : ZS} (h : ZOK z) (s : Nat) : (prS z s).isSome = (blk z s).isSome := by
  cases hb : blk z s with
  | none => unfold prS; rw [hb]
  | some k =>
    obtain ⟨b1, b2, b3⟩ := (blk_some h).mp hb
    obtain ⟨l, hp⟩ := Option.isSome_iff_exists.mp b3
    rw [← b2, prS_some h b1 hp]; rfl
section MFACE2
variable {M : Mem} {b : Nat} {S : BS} {w : WS}
set_option maxRecDepth 20000 in
theorem s8_whereLies {a : Nat} {f : Nat → Int32} {z : ZS} (hM : M a = some (cI 563 f)) (hI : InvR f z) (hZ : ZOK z) {t : Nat} (ht : t < zt z) : Spec mX8_whereLies 3 0 0 [.ref a, .int (nI t)] M (some (.int (oI (whZ z t)))) M := by
  have hd := hZ.dims
  refine Spec_of [some (.ref a), some (.int (nI t)), none, none] (by decide) (Nat.le_of_ble_eq_true rfl) rfl ?_
  refine n_iconst_0 (pc := 0) dX8_whereLies_0 ?_
  refine r_istore2 (pc := 1) dX8_whereLies_1 rfl ?_
  refine n_iconst_0 (pc := 2) dX8_whereLies_2 ?_
  refine r_istore3 (pc := 3) dX8_whereLies_3 rfl ?_
  refine up_to (N := zq z) (k := 0) (fun s => (∀ j, j < cnt z s → zT z j ≠ t) →
    G mX8_whereLies 3 (.inl false) 0 0 (dT (some (.int (oI (whZ z t)))) M) none 0 0 4 [some (.ref a), some (.int (nI t)), some (.int (nI (cnt z s))), some (.int (nI s))] [] M
    ) (fun hno => ?_) (fun s hs ih hno => ?_) (Nat.zero_le _) (fun j hj => absurd hj (Nat.not_lt_zero _))
  · rw [cnt_end hZ] at hno ⊢
    rw [show whZ z t = none from find_no (fun j hj => by simp [hno j hj])]
    refine r_iload3 (pc := 4) dX8_whereLies_4 ?_
    refine r_aload0 (pc := 5) dX8_whereLies_5 ?_
    refine r_callS1i (pc := 6) lk_X8_47 dX8_whereLies_6 (s8_squares hM hI) (by decide) (Nat.le_of_ble_eq_true rfl) ⟨Nat.zero_le _, Nat.zero_le _⟩ ?_
    refine n_icmp_ge (pc := 9) 43 (by decide) dX8_whereLies_9 (by omega) (by omega) (fun hc9 => ?_) (fun hc9 => absurd hc9 (by omega))
    refine r_iconst_m1 (pc := 43) dX8_whereLies_43 ?_
    exact r_ireturn (pc := 44) false rfl rfl rfl dX8_whereLies_44 (Nat.zero_le _) (Nat.zero_le _) (Or.inl rfl) rfl rfl rfl
  · rcases sq_cases hZ s with ⟨k, hk, ek, c1, c2⟩ | ⟨hn, c2⟩
    · subst ek
      have hlp := lz_pos z k
      have htk := hZ.t hk
      rw [c2] at ih
      rw [c1] at hno ⊢
      refine r_iload3 (pc := 4) dX8_whereLies_4 ?_
      refine r_aload0 (pc := 5) dX8_whereLies_5 ?_
      refine r_callS1i (pc := 6) lk_X8_47 dX8_whereLies_6 (s8_squares hM hI) (by decide) (Nat.le_of_ble_eq_true rfl) ⟨Nat.zero_le _, Nat.zero_le _⟩ ?_
      refine n_icmp_ge (pc := 9) 43 (by decide) dX8_whereLies_9 (by omega) (by omega) (fun hc9 => absurd hc9 (by omega)) (fun hc9 => ?_)
      refine r_aload0 (pc := 12) dX8_whereLies_12 ?_
      refine n_bipush (pc := 13) 115 (by decide) dX8_whereLies_13 ?_
      refine r_iload3 (pc := 15) dX8_whereLies_15 ?_
      first | refine n_iadd (pc := 16) dX8_whereLies_16 ?_ | refine z_iadd (pc := 16) dX8_whereLies_16 ?_ | refine r_iadd (pc := 16) dX8_whereLies_16 ?_
      refine n_iald (pc := 17) dX8_whereLies_17 hM (by omega) (by decide) (hI.L hk) ?_
      refine n_if_le (pc := 18) 37 (by decide) dX8_whereLies_18 (by omega) (fun h9 => absurd h9 (by omega)) (fun _ => ?_)
      refine r_aload0 (pc := 21) dX8_whereLies_21 ?_
      refine n_sipush (pc := 22) 227 (by decide) dX8_whereLies_22 ?_
      refine r_iload3 (pc := 25) dX8_whereLies_25 ?_
      first | refine n_iadd (pc := 26) dX8_whereLies_26 ?_ | refine z_iadd (pc := 26) dX8_whereLies_26 ?_ | refine r_iadd (pc := 26) dX8_whereLies_26 ?_
      refine n_iald (pc := 27) dX8_whereLies_27 hM (by omega) (by decide) (hI.T hk) ?_
      refine r_iload1 (pc := 28) dX8_whereLies_28 ?_
      refine n_icmp_ne (pc := 29) 34 (by decide) dX8_whereLies_29 (by omega) (by omega) (fun h9 => ?_) (fun h9 => ?_)
      · refine n_iinc2 (pc := 34) dX8_whereLies_34 rfl ?_
        refine n_iinc3 (pc := 37) dX8_whereLies_37 rfl ?_
        refine r_goto (pc := 40) 4 (by decide) dX8_whereLies_40 ?_
        exact ih (fun j hj => by rcases Nat.lt_succ_iff_lt_or_eq.mp hj with h8 | h8; exact hno j h8; rw [h8]; exact h9)
      · rw [show whZ z t = some k from find_first hk (by simp [h9]) (fun j hj => by simp [hno j hj])]
        refine r_iload2 (pc := 32) dX8_whereLies_32 ?_
        exact r_ireturn (pc := 33) false rfl rfl rfl dX8_whereLies_33 (Nat.zero_le _) (Nat.zero_le _) (Or.inl rfl) rfl rfl rfl
    · rw [c2] at ih
      refine r_iload3 (pc := 4) dX8_whereLies_4 ?_
      refine r_aload0 (pc := 5) dX8_whereLies_5 ?_
      refine r_callS1i (pc := 6) lk_X8_47 dX8_whereLies_6 (s8_squares hM hI) (by decide) (Nat.le_of_ble_eq_true rfl) ⟨Nat.zero_le _, Nat.zero_le _⟩ ?_
      refine n_icmp_ge (pc := 9) 43 (by decide) dX8_whereLies_9 (by omega) (by omega) (fun hc9 => absurd hc9 (by omega)) (fun hc9 => ?_)
      refine r_aload0 (pc := 12) dX8_whereLies_12 ?_
      refine n_bipush (pc := 13) 115 (by decide) dX8_whereLies_13 ?_
      refine r_iload3 (pc := 15) dX8_whereLies_15 ?_
      first | refine n_iadd (pc := 16) dX8_whereLies_16 ?_ | refine z_iadd (pc := 16) dX8_whereLies_16 ?_ | refine r_iadd (pc := 16) dX8_whereLies_16 ?_
      refine n_iald (pc := 17) dX8_whereLies_17 hM (by omega) (by decide) (hI.Z hs hn) ?_
      refine n_if_le (pc := 18) 37 (by decide) dX8_whereLies_18 (by omega) (fun _ => ?_) (fun h9 => absurd h9 (by omega))
      refine n_iinc3 (pc := 37) dX8_whereLies_37 rfl ?_
      refine r_goto (pc := 40) 4 (by decide) dX8_whereLies_40 ?_
      exact ih hno
theorem s8_isChange {a : Nat} {f : Nat → Int32} {z : ZS} (hM : M a = some (cI 563 f)) (hI : InvR f z) (hZ : ZOK z) {x : Int32} : Spec mX8_isChange 5 0 0 [.ref a, .int x] M (some (.int (bI (inR x 30000 && posZ z (nm x))))) M := by
  have hd := hZ.dims
  refine Spec_of [some (.ref a), some (.int x), none] (by decide) (Nat.le_of_ble_eq_true rfl) rfl ?_
  cases h1 : inR x 30000 with
  | false =>
    refine r_iload1 (pc := 0) dX8_isChange_0 ?_
    refine n_sipush (pc := 1) 10000 (by decide) dX8_isChange_1 ?_
    refine r_irem (pc := 4) dX8_isChange_4 (by decide) ?_
    refine r_istore2 (pc := 5) dX8_isChange_5 rfl ?_
    refine r_iload1 (pc := 6) dX8_isChange_6 ?_
    refine r_i2l (pc := 7) dX8_isChange_7 ?_
    refine r_lconst_0 (pc := 8) dX8_isChange_8 ?_
    refine r_ldc2 (v := (29999)) (pc := 9) (tG 1377 (by decide +kernel) (by decide +kernel)) dX8_isChange_9 ?_
    refine r_callS3i (pc := 12) lk_X8_50 dX8_isChange_12 (s8_inAB (a := 0) (b := 29999) (by decide) (by decide)) (by decide) (Nat.le_of_ble_eq_true rfl) ⟨Nat.zero_le _, Nat.zero_le _⟩ ?_
    rw [inB_R, h1]
    refine b_if_ne (b := false) (pc := 15) 20 (by decide) dX8_isChange_15 (fun h9 => by cases h9) (fun _ => ?_)
    refine n_iconst_0 (pc := 18) dX8_isChange_18 ?_
    exact r_ireturn (pc := 19) false rfl rfl (by decide) dX8_isChange_19 (Nat.zero_le _) (Nat.zero_le _) (Or.inl rfl) rfl rfl rfl
  | true =>
    obtain ⟨c1, c2⟩ := inR_nm h1 (by omega)
    have h1b : inB x 0 29999 = true := by rw [inB_R]; exact h1
    generalize nm x = n at *
    subst c2
    refine r_iload1 (pc := 0) dX8_isChange_0 ?_
    refine n_sipush (pc := 1) 10000 (by decide) dX8_isChange_1 ?_
    refine n_irem (pc := 4) dX8_isChange_4 (by omega) (by omega) (by omega) ?_
    refine r_istore2 (pc := 5) dX8_isChange_5 rfl ?_
    refine r_iload1 (pc := 6) dX8_isChange_6 ?_
    refine r_i2l (pc := 7) dX8_isChange_7 ?_
    refine r_lconst_0 (pc := 8) dX8_isChange_8 ?_
    refine r_ldc2 (v := (29999)) (pc := 9) (tG 1377 (by decide +kernel) (by decide +kernel)) dX8_isChange_9 ?_
    refine r_callS3i (pc := 12) lk_X8_50 dX8_isChange_12 (s8_inAB (a := 0) (b := 29999) (by decide) (by decide)) (by decide) (Nat.le_of_ble_eq_true rfl) ⟨Nat.zero_le _, Nat.zero_le _⟩ ?_
    rw [h1b]
    refine b_if_ne (b := true) (pc := 15) 20 (by decide) dX8_isChange_15 (fun _ => ?_) (fun h9 => by cases h9)
    refine r_iload1 (pc := 20) dX8_isChange_20 ?_
    refine n_sipush (pc := 21) 10000 (by decide) dX8_isChange_21 ?_
    refine n_icmp_ge (pc := 24) 35 (by decide) dX8_isChange_24 (by omega) (by omega) (fun h2 => ?_) (fun h2 => ?_)
    · refine r_iload1 (pc := 35) dX8_isChange_35 ?_
      refine n_sipush (pc := 36) 20000 (by decide) dX8_isChange_36 ?_
      refine n_icmp_ge (pc := 39) 72 (by decide) dX8_isChange_39 (by omega) (by omega) (fun h3 => ?_) (fun h3 => ?_)
      · have e : posZ z n = (blk z (n % 10000)).isSome := by unfold posZ; rw [if_neg (by omega), if_neg (by omega)]
        rw [e]
        refine r_iload2 (pc := 72) dX8_isChange_72 ?_
        refine r_aload0 (pc := 73) dX8_isChange_73 ?_
        refine r_callS1i (pc := 74) lk_X8_47 dX8_isChange_74 (s8_squares hM hI) (by decide) (Nat.le_of_ble_eq_true rfl) ⟨Nat.zero_le _, Nat.zero_le _⟩ ?_
        refine n_icmp_ge (pc := 77) 93 (by decide) dX8_isChange_77 (by omega) (by omega) (fun h4 => ?_) (fun h4 => ?_)
        · rw [blk_no (fun k hk ek => absurd (hZ.fq hk) (by omega))]
          refine n_iconst_0 (pc := 93) dX8_isChange_93 ?_
          exact r_ireturn (pc := 94) false rfl rfl (by decide) dX8_isChange_94 (Nat.zero_le _) (Nat.zero_le _) (Or.inl rfl) rfl rfl rfl
        · refine r_aload0 (pc := 80) dX8_isChange_80 ?_
          refine r_iload2 (pc := 81) dX8_isChange_81 ?_
          refine r_callS2i (pc := 82) lk_X8_91 dX8_isChange_82 (s8_partner hM hI hZ h4) (by decide) (Nat.le_of_ble_eq_true rfl) ⟨Nat.zero_le _, Nat.zero_le _⟩ ?_
          refine r_iconst_m1 (pc := 85) dX8_isChange_85 ?_
          rw [← prS_blk hZ]
          cases hp : prS z (n % 10000) with
          | none =>
            refine r_icmp_eq (pc := 86) 93 (by decide) dX8_isChange_86 (fun _ => ?_) (fun h9 => absurd rfl h9)
            refine n_iconst_0 (pc := 93) dX8_isChange_93 ?_
            exact r_ireturn (pc := 94) false rfl rfl (by decide) dX8_isChange_94 (Nat.zero_le _) (Nat.zero_le _) (Or.inl rfl) rfl rfl rfl
          | some q =>
            have hq : q < 2147483648 := by
              unfold prS at hp
              cases hb : blk z (n % 10000) with
              | none => rw [hb] at hp; cases hp
              | some k =>
                rw [hb] at hp
                have hp : (match part z k with | none => none | some l => some (zF z l)) = some q := hp
                cases hpp : part z k with
                | none => rw [hpp] at hp; cases hp
                | some l =>
                  rw [hpp] at hp
                  cases hp
                  have := hZ.fq (part_lt hZ hpp)
                  omega
            refine r_icmp_eq (pc := 86) 93 (by decide) dX8_isChange_86 (fun h9 => absurd h9 (nI_ne_m1 hq)) (fun _ => ?_)
            refine n_iconst_1 (pc := 89) dX8_isChange_89 ?_
            refine r_goto (pc := 90) 94 (by decide) dX8_isChange_90 ?_
            exact r_ireturn (pc := 94) false rfl rfl (by decide) dX8_isChange_94 (Nat.zero_le _) (Nat.zero_le _) (Or.inl rfl) rfl rfl rfl
      · have e : posZ z n = (decide (n % 10000 / 100 < n % 10000 % 100) && decide (n % 10000 % 100 < zt z)) := by unfold posZ; rw [if_neg (by omega), if_pos (by omega)]
        rw [e]
        refine r_iload2 (pc := 42) dX8_isChange_42 ?_
        refine n_bipush (pc := 43) 100 (by decide) dX8_isChange_43 ?_
        refine n_idiv (pc := 45) dX8_isChange_45 (by omega) (by omega) (by omega) ?_
        refine r_iload2 (pc := 46) dX8_isChange_46 ?_
        refine n_bipush (pc := 47) 100 (by decide) dX8_isChange_47 ?_
        refine n_irem (pc := 49) dX8_isChange_49 (by omega) (by omega) (by omega) ?_
        refine n_icmp_ge (pc := 50) 68 (by decide) dX8_isChange_50 (by omega) (by omega) (fun h4 => ?_) (fun h4 => ?_)
        · refine n_iconst_0 (pc := 68) dX8_isChange_68 ?_
          refine r_goto (pc := 69) 94 (by decide) dX8_isChange_69 ?_
          exact r_ireturn (pc := 94) false rfl rfl (by decide) dX8_isChange_94 (Nat.zero_le _) (Nat.zero_le _) (Or.inl rfl) rfl (by rw [decide_eq_false (show ¬ n % 10000 / 100 < n % 10000 % 100 by omega)]; rfl) rfl
        · refine r_aload0 (pc := 53) dX8_isChange_53 ?_
          refine r_iload2 (pc := 54) dX8_isChange_54 ?_
          refine n_bipush (pc := 55) 100 (by decide) dX8_isChange_55 ?_
          refine n_irem (pc := 57) dX8_isChange_57 (by omega) (by omega) (by omega) ?_
          refine r_callS2i (pc := 58) lk_X8_152 dX8_isChange_58 (s8_isPlace hM hI hZ) (by decide) (Nat.le_of_ble_eq_true rfl) ⟨Nat.zero_le _, Nat.zero_le _⟩ ?_
          rw [inR_nI (by omega) (by omega)]
          refine b_if_eq (pc := 61) 68 (by decide) dX8_isChange_61 (fun h5 => ?_) (fun h5 => ?_)
          · refine n_iconst_0 (pc := 68) dX8_isChange_68 ?_
            refine r_goto (pc := 69) 94 (by decide) dX8_isChange_69 ?_
            exact r_ireturn (pc := 94) false rfl rfl (by decide) dX8_isChange_94 (Nat.zero_le _) (Nat.zero_le _) (Or.inl rfl) rfl (by rw [h5, Bool.and_false]; rfl) rfl
          · refine n_iconst_1 (pc := 64) dX8_isChange_64 ?_
            refine r_goto (pc := 65) 94 (by decide) dX8_isChange_65 ?_
            exact r_ireturn (pc := 94) false rfl rfl (by decide) dX8_isChange_94 (Nat.zero_le _) (Nat.zero_le _) (Or.inl rfl) rfl (by rw [h5, decide_eq_true h4]; rfl) rfl
    · have e : posZ z n = decide (n % 10000 < zt z) := by unfold posZ; rw [if_pos h2, Nat.mod_eq_of_lt h2]
      refine r_aload0 (pc := 27) dX8_isChange_27 ?_
      refine r_iload2 (pc := 28) dX8_isChange_28 ?_
      refine r_callS2i (pc := 29) lk_X8_152 dX8_isChange_29 (s8_isPlace hM hI hZ) (by decide) (Nat.le_of_ble_eq_true rfl) ⟨Nat.zero_le _, Nat.zero_le _⟩ ?_
      refine r_goto (pc := 32) 94 (by decide) dX8_isChange_32 ?_
      rw [inR_nI (by omega) (by omega), ← e]
      exact r_ireturn (pc := 94) false rfl rfl (nar_bI _) dX8_isChange_94 (Nat.zero_le _) (Nat.zero_le _) (Or.inl rfl) rfl rfl rfl
set_option maxRecDepth 20000 in
theorem s8_about (h : MODEL S w) (hW : WOK w) {x : Int32} : SpecP mX8_about 12 0 0 [.ref b, .int x] (kset M b S) (tMo M b (A_about x w)) := by
  have hZ := hW.z
  have hd := hZ.dims
  have hI := h.r
  have hk14 := hW.2.1.1
  have hn120 := hW.2.2.2.1
  have ha := h.a
  have hn := h.n
  have hM : kset M b S (b + 2) = some (cI 563 (S.2 1)) := kget rfl
  refine Spec_of [some (.ref b), some (.int x), none, none] (by decide) (Nat.le_of_ble_eq_true rfl) rfl ?_
  have no : ∀ k, 0 < k → k < 10 → A_about x w = rN k w →
    G mX8_about 12 (.inl false) 0 0 (tMo M b (A_about x w)) none 0 0 18 [some (.ref b), some (.int x), none, none] [.int (nI k), .ref b] (kset M b S)
    := by
    intro k h1 h2 e
    refine r_callV1i (pc := 18) lk_X8_167 dX8_about_18 (kget0 rfl) (s8_refused h2) (by decide) (Nat.le_of_ble_eq_true rfl) ⟨Nat.zero_le _, Nat.zero_le _⟩ ?_
    rw [decide_eq_true h1]
    refine b_if_eq (b := true) (pc := 21) 26 (by decide) dX8_about_21 (fun h9 => by cases h9) (fun _ => ?_)
    refine n_iconst_0 (pc := 24) dX8_about_24 ?_
    refine p_ireturn (pc := 25) false rfl rfl rfl dX8_about_25 (Nat.zero_le _) (Nat.zero_le _) (Or.inl rfl) ?_
    rw [e]
    exact ⟨rfl, _, h.ii0 _, rfl, rfl⟩
  have ok :
    G mX8_about 12 (.inl false) 0 0 (tMo M b (A_about x w)) none 0 0 26 [some (.ref b), some (.int x), none, none] [] (kset M b (ii S 0 (nI 0)))
    →
    G mX8_about 12 (.inl false) 0 0 (tMo M b (A_about x w)) none 0 0 18 [some (.ref b), some (.int x), none, none] [.int (nI 0), .ref b] (kset M b S)
    := by
    intro hb9
    refine r_callV1i (pc := 18) lk_X8_167 dX8_about_18 (kget0 rfl) (s8_refused (by decide)) (by decide) (Nat.le_of_ble_eq_true rfl) ⟨Nat.zero_le _, Nat.zero_le _⟩ ?_
    refine b_if_eq (b := false) (pc := 21) 26 (by decide) dX8_about_21 (fun _ => hb9) (fun h9 => by cases h9)
  have ea : A_about x w = if inR x 11 then rO (aboZ (wz w) (nm x)) w else rN 1 w := rfl
  refine r_aload0 (pc := 0) dX8_about_0 ?_
  refine r_iload1 (pc := 1) dX8_about_1 ?_
  refine r_i2l (pc := 2) dX8_about_2 ?_
  refine r_lconst_0 (pc := 3) dX8_about_3 ?_
  refine r_ldc2 (v := (10)) (pc := 4) (tG 1296 (by decide +kernel) (by decide +kernel)) dX8_about_4 ?_
  refine r_callS3i (pc := 7) lk_X8_50 dX8_about_7 (s8_inAB (a := 0) (b := 10) (by decide) (by decide)) (by decide) (Nat.le_of_ble_eq_true rfl) ⟨Nat.zero_le _, Nat.zero_le _⟩ ?_
  rw [inB_R]
  refine b_if_eq (pc := 10) 17 (by decide) dX8_about_10 (fun h1 => ?_) (fun h1 => ?_)
  · refine n_iconst_1 (pc := 17) dX8_about_17 ?_
    exact no 1 (by omega) (by omega) (by rw [ea, h1]; rfl)
  · rw [h1] at ea
    have ea : A_about x w = rO (aboZ (wz w) (nm x)) w := ea
    obtain ⟨c1, c2⟩ := inR_nm h1 (by omega)
    generalize nm x = n at *
    subst c2
    have ret : ∀ (pc : Nat) (v : Int32) (lv : List (Option Value)), dec mX8_about pc = .ok (.ireturn, 1) → aboZ (wz w) n = v → G mX8_about 12 (.inl false) 0 0 (tMo M b (A_about (nI n) w)) none 0 0 pc lv [.int v] (kset M b (ii S 0 (nI 0))) := by
      intro pc v lv h0 e2
      refine p_ireturn (pc := pc) false rfl rfl rfl h0 (Nat.zero_le _) (Nat.zero_le _) (Or.inl rfl) ?_
      rw [ea, e2]
      exact mo rfl rfl (h.ii0 (nI 0))
    refine n_iconst_0 (pc := 13) dX8_about_13 ?_
    refine r_goto (pc := 14) 18 (by decide) dX8_about_14 ?_
    refine ok ?_
    have hM0 : kset M b (ii S 0 (nI 0)) (b + 2) = some (cI 563 (S.2 1)) := kget rfl
    have cc : n = 0 ∨ n = 1 ∨ n = 2 ∨ n = 3 ∨ n = 4 ∨ n = 5 ∨ n = 6 ∨ n = 7 ∨ n = 8 ∨ n = 9 ∨ n = 10 := by omega
    rcases cc with e | e | e | e | e | e | e | e | e | e | e <;> subst e
    · refine n_iconst_0 (pc := 26) dX8_about_26 ?_
      refine r_istore2 (pc := 27) dX8_about_27 rfl ?_
      refine r_iload1 (pc := 28) dX8_about_28 ?_
      refine r_tableIn (pc := 29) 84 (by decide) (by decide) rfl (by decide) dX8_about_29 ?_
      refine r_aload0 (pc := 84) dX8_about_84 ?_
      refine r_getf (pc := 85) fl_X8_13 dX8_about_85 (kget0 rfl) rfl ?_
      refine r_iload1 (pc := 88) dX8_about_88 ?_
      refine n_iald (pc := 89) dX8_about_89 hM0 (by decide) (by decide) hI.n ?_
      exact ret 90 _ _ dX8_about_90 rfl
    · refine n_iconst_0 (pc := 26) dX8_about_26 ?_
      refine r_istore2 (pc := 27) dX8_about_27 rfl ?_
      refine r_iload1 (pc := 28) dX8_about_28 ?_
      refine r_tableIn (pc := 29) 84 (by decide) (by decide) rfl (by decide) dX8_about_29 ?_
      refine r_aload0 (pc := 84) dX8_about_84 ?_
      refine r_getf (pc := 85) fl_X8_13 dX8_about_85 (kget0 rfl) rfl ?_
      refine r_iload1 (pc := 88) dX8_about_88 ?_
      refine n_iald (pc := 89) dX8_about_89 hM0 (by decide) (by decide) hI.s ?_
      exact ret 90 _ _ dX8_about_90 rfl
    · refine n_iconst_0 (pc := 26) dX8_about_26 ?_
      refine r_istore2 (pc := 27) dX8_about_27 rfl ?_
      refine r_iload1 (pc := 28) dX8_about_28 ?_
      refine r_tableIn (pc := 29) 91 (by decide) (by decide) rfl (by decide) dX8_about_29 ?_
      refine r_aload0 (pc := 91) dX8_about_91 ?_
      refine r_getf (pc := 92) fl_X8_13 dX8_about_92 (kget0 rfl) rfl ?_
      refine r_callS1i (pc := 95) lk_X8_40 dX8_about_95 (s8_wide hM0 hI) (by decide) (Nat.le_of_ble_eq_true rfl) ⟨Nat.zero_le _, Nat.zero_le _⟩ ?_
      exact ret 98 _ _ dX8_about_98 rfl
    · refine n_iconst_0 (pc := 26) dX8_about_26 ?_
      refine r_istore2 (pc := 27) dX8_about_27 rfl ?_
      refine r_iload1 (pc := 28) dX8_about_28 ?_
      refine r_tableIn (pc := 29) 99 (by decide) (by decide) rfl (by decide) dX8_about_29 ?_
      refine r_aload0 (pc := 99) dX8_about_99 ?_
      refine r_getf (pc := 100) fl_X8_13 dX8_about_100 (kget0 rfl) rfl ?_
      refine r_callS1i (pc := 103) lk_X8_44 dX8_about_103 (s8_high hM0 hI) (by decide) (Nat.le_of_ble_eq_true rfl) ⟨Nat.zero_le _, Nat.zero_le _⟩ ?_
      exact ret 106 _ _ dX8_about_106 rfl
    · refine n_iconst_0 (pc := 26) dX8_about_26 ?_
      refine r_istore2 (pc := 27) dX8_about_27 rfl ?_
      refine r_iload1 (pc := 28) dX8_about_28 ?_
      refine r_tableIn (pc := 29) 107 (by decide) (by decide) rfl (by decide) dX8_about_29 ?_
      refine r_aload0 (pc := 107) dX8_about_107 ?_
      refine r_getf (pc := 108) fl_X8_13 dX8_about_108 (kget0 rfl) rfl ?_
      refine r_callS1i (pc := 111) lk_X8_54 dX8_about_111 (s8_tiles hM0 hI hZ) (by decide) (Nat.le_of_ble_eq_true rfl) ⟨Nat.zero_le _, Nat.zero_le _⟩ ?_
      exact ret 114 _ _ dX8_about_114 rfl
    · refine n_iconst_0 (pc := 26) dX8_about_26 ?_
      refine r_istore2 (pc := 27) dX8_about_27 rfl ?_
      refine r_iload1 (pc := 28) dX8_about_28 ?_
      refine r_tableIn (pc := 29) 115 (by decide) (by decide) rfl (by decide) dX8_about_29 ?_
      refine r_aload0 (pc := 115) dX8_about_115 ?_
      refine r_getf (pc := 116) fl_X8_13 dX8_about_116 (kget0 rfl) rfl ?_
      refine r_callS1i (pc := 119) lk_X8_146 dX8_about_119 (s8_wholeError hM0 hI hZ) (by decide) (Nat.le_of_ble_eq_true rfl) ⟨Nat.zero_le _, Nat.zero_le _⟩ ?_
      exact ret 122 _ _ dX8_about_122 rfl
    · refine n_iconst_0 (pc := 26) dX8_about_26 ?_
      refine r_istore2 (pc := 27) dX8_about_27 rfl ?_
      refine r_iload1 (pc := 28) dX8_about_28 ?_
      refine r_tableIn (pc := 29) 123 (by decide) (by decide) rfl (by decide) dX8_about_29 ?_
      refine n_iconst_0 (pc := 123) dX8_about_123 ?_
      refine r_istore3 (pc := 124) dX8_about_124 rfl ?_
      refine up_to (N := zq (wz w)) (k := 0) (fun s =>
        G mX8_about 12 (.inl false) 0 0 (tMo M b (A_about (nI 6) w)) none 0 0 125 [some (.ref b), some (.int (nI 6)), some (.int (nI (zN (al (wz w)) (cnt (wz w) s)))), some (.int (nI s))] [] (kset M b (ii S 0 (nI 0)))
        ) ?_ (fun s hs ih => ?_) (Nat.zero_le _)
      · rw [cnt_end hZ]
        refine r_iload3 (pc := 125) dX8_about_125 ?_
        refine r_aload0 (pc := 126) dX8_about_126 ?_
        refine r_getf (pc := 127) fl_X8_13 dX8_about_127 (kget0 rfl) rfl ?_
        refine r_callS1i (pc := 130) lk_X8_47 dX8_about_130 (s8_squares hM0 hI) (by decide) (Nat.le_of_ble_eq_true rfl) ⟨Nat.zero_le _, Nat.zero_le _⟩ ?_
        refine n_icmp_ge (pc := 133) 163 (by decide) dX8_about_133 (by omega) (by omega) (fun hc133 => ?_) (fun hc133 => absurd hc133 (by omega))
        refine r_iload2 (pc := 163) dX8_about_163 ?_
        exact ret 164 _ _ dX8_about_164 rfl
      · rcases sq_cases hZ s with ⟨k, hk, ek, c1, c2⟩ | ⟨hn, c2⟩
        · subst ek
          have hlp := lz_pos (wz w) k
          rw [c2, zN_succ] at ih
          rw [c1]
          refine r_iload3 (pc := 125) dX8_about_125 ?_
          refine r_aload0 (pc := 126) dX8_about_126 ?_
          refine r_getf (pc := 127) fl_X8_13 dX8_about_127 (kget0 rfl) rfl ?_
          refine r_callS1i (pc := 130) lk_X8_47 dX8_about_130 (s8_squares hM0 hI) (by decide) (Nat.le_of_ble_eq_true rfl) ⟨Nat.zero_le _, Nat.zero_le _⟩ ?_
          refine n_icmp_ge (pc := 133) 163 (by decide) dX8_about_133 (by omega) (by omega) (fun hc133 => absurd hc133 (by omega)) (fun hc133 => ?_)
          refine r_iload2 (pc := 136) dX8_about_136 ?_
          refine r_aload0 (pc := 137) dX8_about_137 ?_
          refine r_getf (pc := 138) fl_X8_13 dX8_about_138 (kget0 rfl) rfl ?_
          refine n_bipush (pc := 141) 115 (by decide) dX8_about_141 ?_
          refine r_iload3 (pc := 143) dX8_about_143 ?_
          first | refine n_iadd (pc := 144) dX8_about_144 ?_ | refine z_iadd (pc := 144) dX8_about_144 ?_ | refine r_iadd (pc := 144) dX8_about_144 ?_
          refine n_iald (pc := 145) dX8_about_145 hM0 (by omega) (by decide) (hI.L hk) ?_
          refine n_iconst_1 (pc := 146) dX8_about_146 ?_
          refine n_icmp_ne (pc := 147) 154 (by decide) dX8_about_147 (by omega) (by omega) (fun h9 => ?_) (fun h9 => ?_)
          · rw [if_neg (fun q => h9 ((zN_al hZ hk).mp q))] at ih
            refine n_iconst_0 (pc := 154) dX8_about_154 ?_
            first | refine n_iadd (pc := 155) dX8_about_155 ?_ | refine z_iadd (pc := 155) dX8_about_155 ?_ | refine r_iadd (pc := 155) dX8_about_155 ?_
            refine r_istore2 (pc := 156) dX8_about_156 rfl ?_
            refine n_iinc3 (pc := 157) dX8_about_157 rfl ?_
            refine r_goto (pc := 160) 125 (by decide) dX8_about_160 ?_
            exact ih
          · rw [if_pos ((zN_al hZ hk).mpr h9)] at ih
            refine n_iconst_1 (pc := 150) dX8_about_150 ?_
            refine r_goto (pc := 151) 155 (by decide) dX8_about_151 ?_
            first | refine n_iadd (pc := 155) dX8_about_155 ?_ | refine z_iadd (pc := 155) dX8_about_155 ?_ | refine r_iadd (pc := 155) dX8_about_155 ?_
            refine r_istore2 (pc := 156) dX8_about_156 rfl ?_
            refine n_iinc3 (pc := 157) dX8_about_157 rfl ?_
            refine r_goto (pc := 160) 125 (by decide) dX8_about_160 ?_
            exact ih
        · rw [c2] at ih
          refine r_iload3 (pc := 125) dX8_about_125 ?_
          refine r_aload0 (pc := 126) dX8_about_126 ?_
          refine r_getf (pc := 127) fl_X8_13 dX8_about_127 (kget0 rfl) rfl ?_
          refine r_callS1i (pc := 130) lk_X8_47 dX8_about_130 (s8_squares hM0 hI) (by decide) (Nat.le_of_ble_eq_true rfl) ⟨Nat.zero_le _, Nat.zero_le _⟩ ?_
          refine n_icmp_ge (pc := 133) 163 (by decide) dX8_about_133 (by omega) (by omega) (fun hc133 => absurd hc133 (by omega)) (fun hc133 => ?_)
          refine r_iload2 (pc := 136) dX8_about_136 ?_
          refine r_aload0 (pc := 137) dX8_about_137 ?_
          refine r_getf (pc := 138) fl_X8_13 dX8_about_138 (kget0 rfl) rfl ?_
          refine n_bipush (pc := 141) 115 (by decide) dX8_about_141 ?_
          refine r_iload3 (pc := 143) dX8_about_143 ?_
          first | refine n_iadd (pc := 144) dX8_about_144 ?_ | refine z_iadd (pc := 144) dX8_about_144 ?_ | refine r_iadd (pc := 144) dX8_about_144 ?_
          refine n_iald (pc := 145) dX8_about_145 hM0 (by omega) (by decide) (hI.Z hs hn) ?_
          refine n_iconst_1 (pc := 146) dX8_about_146 ?_
          refine n_icmp_ne (pc := 147) 154 (by decide) dX8_about_147 (by omega) (by omega) (fun h9 => ?_) (fun h9 => absurd h9 (by omega))
          refine n_iconst_0 (pc := 154) dX8_about_154 ?_
          first | refine n_iadd (pc := 155) dX8_about_155 ?_ | refine z_iadd (pc := 155) dX8_about_155 ?_ | refine r_iadd (pc := 155) dX8_about_155 ?_
          refine r_istore2 (pc := 156) dX8_about_156 rfl ?_
          refine n_iinc3 (pc := 157) dX8_about_157 rfl ?_
          refine r_goto (pc := 160) 125 (by decide) dX8_about_160 ?_
          exact ih
    · refine n_iconst_0 (pc := 26) dX8_about_26 ?_
      refine r_istore2 (pc := 27) dX8_about_27 rfl ?_
      refine r_iload1 (pc := 28) dX8_about_28 ?_
      refine r_tableIn (pc := 29) 165 (by decide) (by decide) rfl (by decide) dX8_about_29 ?_
      refine n_iconst_0 (pc := 165) dX8_about_165 ?_
      refine r_istore3 (pc := 166) dX8_about_166 rfl ?_
      refine up_to (N := zq (wz w)) (k := 0) (fun s =>
        G mX8_about 12 (.inl false) 0 0 (tMo M b (A_about (nI 7) w)) none 0 0 167 [some (.ref b), some (.int (nI 7)), some (.int (nI (zM (zU (wz w)) (cnt (wz w) s)))), some (.int (nI s))] [] (kset M b (ii S 0 (nI 0)))
        ) ?_ (fun s hs ih => ?_) (Nat.zero_le _)
      · rw [cnt_end hZ]
        refine r_iload3 (pc := 167) dX8_about_167 ?_
        refine r_aload0 (pc := 168) dX8_about_168 ?_
        refine r_getf (pc := 169) fl_X8_13 dX8_about_169 (kget0 rfl) rfl ?_
        refine r_callS1i (pc := 172) lk_X8_47 dX8_about_172 (s8_squares hM0 hI) (by decide) (Nat.le_of_ble_eq_true rfl) ⟨Nat.zero_le _, Nat.zero_le _⟩ ?_
        refine n_icmp_ge (pc := 175) 213 (by decide) dX8_about_175 (by omega) (by omega) (fun hc175 => ?_) (fun hc175 => absurd hc175 (by omega))
        refine r_iload2 (pc := 213) dX8_about_213 ?_
        exact ret 214 _ _ dX8_about_214 rfl
      · rcases sq_cases hZ s with ⟨k, hk, ek, c1, c2⟩ | ⟨hn, c2⟩
        · subst ek
          have hlp := lz_pos (wz w) k
          rw [c2] at ih
          rw [c1]
          refine r_iload3 (pc := 167) dX8_about_167 ?_
          refine r_aload0 (pc := 168) dX8_about_168 ?_
          refine r_getf (pc := 169) fl_X8_13 dX8_about_169 (kget0 rfl) rfl ?_
          refine r_callS1i (pc := 172) lk_X8_47 dX8_about_172 (s8_squares hM0 hI) (by decide) (Nat.le_of_ble_eq_true rfl) ⟨Nat.zero_le _, Nat.zero_le _⟩ ?_
          refine n_icmp_ge (pc := 175) 213 (by decide) dX8_about_175 (by omega) (by omega) (fun hc175 => absurd hc175 (by omega)) (fun hc175 => ?_)
          refine r_iload2 (pc := 178) dX8_about_178 ?_
          refine r_aload0 (pc := 179) dX8_about_179 ?_
          refine r_getf (pc := 180) fl_X8_13 dX8_about_180 (kget0 rfl) rfl ?_
          refine n_bipush (pc := 183) 115 (by decide) dX8_about_183 ?_
          refine r_iload3 (pc := 185) dX8_about_185 ?_
          first | refine n_iadd (pc := 186) dX8_about_186 ?_ | refine z_iadd (pc := 186) dX8_about_186 ?_ | refine r_iadd (pc := 186) dX8_about_186 ?_
          refine n_iald (pc := 187) dX8_about_187 hM0 (by omega) (by decide) (hI.L hk) ?_
          refine n_if_le (pc := 188) 204 (by decide) dX8_about_188 (by omega) (fun h9 => absurd h9 (by omega)) (fun _ => ?_)
          refine r_aload0 (pc := 191) dX8_about_191 ?_
          refine r_getf (pc := 192) fl_X8_13 dX8_about_192 (kget0 rfl) rfl ?_
          refine n_sipush (pc := 195) 339 (by decide) dX8_about_195 ?_
          refine r_iload3 (pc := 198) dX8_about_198 ?_
          first | refine n_iadd (pc := 199) dX8_about_199 ?_ | refine z_iadd (pc := 199) dX8_about_199 ?_ | refine r_iadd (pc := 199) dX8_about_199 ?_
          refine n_iald (pc := 200) dX8_about_200 hM0 (by omega) (by decide) (hI.U hk) ?_
          refine r_goto (pc := 201) 205 (by decide) dX8_about_201 ?_
          first | refine n_iadd (pc := 205) dX8_about_205 ?_ | refine z_iadd (pc := 205) dX8_about_205 ?_ | refine r_iadd (pc := 205) dX8_about_205 ?_
          refine r_istore2 (pc := 206) dX8_about_206 rfl ?_
          refine n_iinc3 (pc := 207) dX8_about_207 rfl ?_
          refine r_goto (pc := 210) 167 (by decide) dX8_about_210 ?_
          exact ih
        · rw [c2] at ih
          refine r_iload3 (pc := 167) dX8_about_167 ?_
          refine r_aload0 (pc := 168) dX8_about_168 ?_
          refine r_getf (pc := 169) fl_X8_13 dX8_about_169 (kget0 rfl) rfl ?_
          refine r_callS1i (pc := 172) lk_X8_47 dX8_about_172 (s8_squares hM0 hI) (by decide) (Nat.le_of_ble_eq_true rfl) ⟨Nat.zero_le _, Nat.zero_le _⟩ ?_
          refine n_icmp_ge (pc := 175) 213 (by decide) dX8_about_175 (by omega) (by omega) (fun hc175 => absurd hc175 (by omega)) (fun hc175 => ?_)
          refine r_iload2 (pc := 178) dX8_about_178 ?_
          refine r_aload0 (pc := 179) dX8_about_179 ?_
          refine r_getf (pc := 180) fl_X8_13 dX8_about_180 (kget0 rfl) rfl ?_
          refine n_bipush (pc := 183) 115 (by decide) dX8_about_183 ?_
          refine r_iload3 (pc := 185) dX8_about_185 ?_
          first | refine n_iadd (pc := 186) dX8_about_186 ?_ | refine z_iadd (pc := 186) dX8_about_186 ?_ | refine r_iadd (pc := 186) dX8_about_186 ?_
          refine n_iald (pc := 187) dX8_about_187 hM0 (by omega) (by decide) (hI.Z hs hn) ?_
          refine n_if_le (pc := 188) 204 (by decide) dX8_about_188 (by omega) (fun _ => ?_) (fun h9 => absurd h9 (by omega))
          refine n_iconst_0 (pc := 204) dX8_about_204 ?_
          first | refine n_iadd (pc := 205) dX8_about_205 ?_ | refine z_iadd (pc := 205) dX8_about_205 ?_ | refine r_iadd (pc := 205) dX8_about_205 ?_
          refine r_istore2 (pc := 206) dX8_about_206 rfl ?_
          refine n_iinc3 (pc := 207) dX8_about_207 rfl ?_
          refine r_goto (pc := 210) 167 (by decide) dX8_about_210 ?_
          exact ih
    · refine n_iconst_0 (pc := 26) dX8_about_26 ?_
      refine r_istore2 (pc := 27) dX8_about_27 rfl ?_
      refine r_iload1 (pc := 28) dX8_about_28 ?_
      refine r_tableIn (pc := 29) 215 (by decide) (by decide) rfl (by decide) dX8_about_29 ?_
      refine r_aload0 (pc := 215) dX8_about_215 ?_
      refine r_getf (pc := 216) fl_X8_13 dX8_about_216 (kget0 rfl) rfl ?_
      refine r_callS1i (pc := 219) lk_X8_149 dX8_about_219 (s8_heldMany hM0 hI hZ) (by decide) (Nat.le_of_ble_eq_true rfl) ⟨Nat.zero_le _, Nat.zero_le _⟩ ?_
      exact ret 222 _ _ dX8_about_222 rfl
    · refine n_iconst_0 (pc := 26) dX8_about_26 ?_
      refine r_istore2 (pc := 27) dX8_about_27 rfl ?_
      refine r_iload1 (pc := 28) dX8_about_28 ?_
      refine r_tableIn (pc := 29) 223 (by decide) (by decide) rfl (by decide) dX8_about_29 ?_
      refine n_iconst_0 (pc := 223) dX8_about_223 ?_
      refine r_istore3 (pc := 224) dX8_about_224 rfl ?_
      refine up_to (N := zq (wz w)) (k := 0) (fun s =>
        G mX8_about 12 (.inl false) 0 0 (tMo M b (A_about (nI 9) w)) none 0 0 225 [some (.ref b), some (.int (nI 9)), some (.int (nI (zN (fun k => (part (wz w) k).isSome) (cnt (wz w) s)))), some (.int (nI s))] [] (kset M b (ii S 0 (nI 0)))
        ) ?_ (fun s hs ih => ?_) (Nat.zero_le _)
      · rw [cnt_end hZ]
        refine r_iload3 (pc := 225) dX8_about_225 ?_
        refine r_aload0 (pc := 226) dX8_about_226 ?_
        refine r_getf (pc := 227) fl_X8_13 dX8_about_227 (kget0 rfl) rfl ?_
        refine r_callS1i (pc := 230) lk_X8_47 dX8_about_230 (s8_squares hM0 hI) (by decide) (Nat.le_of_ble_eq_true rfl) ⟨Nat.zero_le _, Nat.zero_le _⟩ ?_
        refine n_icmp_ge (pc := 233) 262 (by decide) dX8_about_233 (by omega) (by omega) (fun hc233 => ?_) (fun hc233 => absurd hc233 (by omega))
        refine r_iload2 (pc := 262) dX8_about_262 ?_
        exact ret 263 _ _ dX8_about_263 rfl
      · rcases sq_cases hZ s with ⟨k, hk, ek, c1, c2⟩ | ⟨hn, c2⟩
        · subst ek
          rw [c2, zN_succ] at ih
          rw [c1]
          refine r_iload3 (pc := 225) dX8_about_225 ?_
          refine r_aload0 (pc := 226) dX8_about_226 ?_
          refine r_getf (pc := 227) fl_X8_13 dX8_about_227 (kget0 rfl) rfl ?_
          refine r_callS1i (pc := 230) lk_X8_47 dX8_about_230 (s8_squares hM0 hI) (by decide) (Nat.le_of_ble_eq_true rfl) ⟨Nat.zero_le _, Nat.zero_le _⟩ ?_
          refine n_icmp_ge (pc := 233) 262 (by decide) dX8_about_233 (by omega) (by omega) (fun hc233 => absurd hc233 (by omega)) (fun hc233 => ?_)
          refine r_iload2 (pc := 236) dX8_about_236 ?_
          refine r_aload0 (pc := 237) dX8_about_237 ?_
          refine r_getf (pc := 238) fl_X8_13 dX8_about_238 (kget0 rfl) rfl ?_
          refine r_iload3 (pc := 241) dX8_about_241 ?_
          refine r_callS2i (pc := 242) lk_X8_91 dX8_about_242 (s8_partner hM0 hI hZ hs) (by decide) (Nat.le_of_ble_eq_true rfl) ⟨Nat.zero_le _, Nat.zero_le _⟩ ?_
          refine r_iconst_m1 (pc := 245) dX8_about_245 ?_
          cases hp : part (wz w) k with
          | none =>
            rw [hp] at ih
            rw [prS_none hZ hk hp]
            refine r_icmp_eq (pc := 246) 253 (by decide) dX8_about_246 (fun _ => ?_) (fun h9 => absurd rfl h9)
            refine n_iconst_0 (pc := 253) dX8_about_253 ?_
            first | refine n_iadd (pc := 254) dX8_about_254 ?_ | refine z_iadd (pc := 254) dX8_about_254 ?_ | refine r_iadd (pc := 254) dX8_about_254 ?_
            refine r_istore2 (pc := 255) dX8_about_255 rfl ?_
            refine n_iinc3 (pc := 256) dX8_about_256 rfl ?_
            refine r_goto (pc := 259) 225 (by decide) dX8_about_259 ?_
            exact ih
          | some l =>
            rw [hp] at ih
            have hql := hZ.fq (part_lt hZ hp)
            rw [prS_some hZ hk hp]
            refine r_icmp_eq (pc := 246) 253 (by decide) dX8_about_246 (fun h9 => absurd h9 (nI_ne_m1 (by omega))) (fun _ => ?_)
            refine n_iconst_1 (pc := 249) dX8_about_249 ?_
            refine r_goto (pc := 250) 254 (by decide) dX8_about_250 ?_
            first | refine n_iadd (pc := 254) dX8_about_254 ?_ | refine z_iadd (pc := 254) dX8_about_254 ?_ | refine r_iadd (pc := 254) dX8_about_254 ?_
            refine r_istore2 (pc := 255) dX8_about_255 rfl ?_
            refine n_iinc3 (pc := 256) dX8_about_256 rfl ?_
            refine r_goto (pc := 259) 225 (by decide) dX8_about_259 ?_
            exact ih
        · rw [c2] at ih
          refine r_iload3 (pc := 225) dX8_about_225 ?_
          refine r_aload0 (pc := 226) dX8_about_226 ?_
          refine r_getf (pc := 227) fl_X8_13 dX8_about_227 (kget0 rfl) rfl ?_
          refine r_callS1i (pc := 230) lk_X8_47 dX8_about_230 (s8_squares hM0 hI) (by decide) (Nat.le_of_ble_eq_true rfl) ⟨Nat.zero_le _, Nat.zero_le _⟩ ?_
          refine n_icmp_ge (pc := 233) 262 (by decide) dX8_about_233 (by omega) (by omega) (fun hc233 => absurd hc233 (by omega)) (fun hc233 => ?_)
          refine r_iload2 (pc := 236) dX8_about_236 ?_
          refine r_aload0 (pc := 237) dX8_about_237 ?_
          refine r_getf (pc := 238) fl_X8_13 dX8_about_238 (kget0 rfl) rfl ?_
          refine r_iload3 (pc := 241) dX8_about_241 ?_
          refine r_callS2i (pc := 242) lk_X8_91 dX8_about_242 (s8_partner hM0 hI hZ hs) (by decide) (Nat.le_of_ble_eq_true rfl) ⟨Nat.zero_le _, Nat.zero_le _⟩ ?_
          refine r_iconst_m1 (pc := 245) dX8_about_245 ?_
          rw [prS_no hn]
          refine r_icmp_eq (pc := 246) 253 (by decide) dX8_about_246 (fun _ => ?_) (fun h9 => absurd rfl h9)
          refine n_iconst_0 (pc := 253) dX8_about_253 ?_
          first | refine n_iadd (pc := 254) dX8_about_254 ?_ | refine z_iadd (pc := 254) dX8_about_254 ?_ | refine r_iadd (pc := 254) dX8_about_254 ?_
          refine r_istore2 (pc := 255) dX8_about_255 rfl ?_
          refine n_iinc3 (pc := 256) dX8_about_256 rfl ?_
          refine r_goto (pc := 259) 225 (by decide) dX8_about_259 ?_
          exact ih
    · refine n_iconst_0 (pc := 26) dX8_about_26 ?_
      refine r_istore2 (pc := 27) dX8_about_27 rfl ?_
      refine r_iload1 (pc := 28) dX8_about_28 ?_
      refine r_tableOut (pc := 29) 264 (Or.inr (by decide)) (by decide) dX8_about_29 ?_
      refine r_aload0 (pc := 264) dX8_about_264 ?_
      refine r_getf (pc := 265) fl_X8_13 dX8_about_265 (kget0 rfl) rfl ?_
      refine n_iconst_2 (pc := 268) dX8_about_268 ?_
      refine n_iald (pc := 269) dX8_about_269 hM0 (by decide) (by decide) hI.ch ?_
      exact ret 270 _ _ dX8_about_270 rfl
set_option maxRecDepth 20000 in
theorem s8_square (h : MODEL S w) (hW : WOK w) {x y g : Int32} : SpecP mX8_square 12 0 0 [.ref b, .int x, .int y, .int g] (kset M b S) (tMo M b (A_square x y g w)) := by
  have hZ := hW.z
  have hd := hZ.dims
  have hI := h.r
  have hk14 := hW.2.1.1
  have hn120 := hW.2.2.2.1
  have ha := h.a
  have hn := h.n
  have hM : kset M b S (b + 2) = some (cI 563 (S.2 1)) := kget rfl
  refine Spec_of [some (.ref b), some (.int x), some (.int y), some (.int g), none, none] (by decide) (Nat.le_of_ble_eq_true rfl) rfl ?_
  have no : ∀ k, 0 < k → k < 10 → A_square x y g w = rN k w →
    G mX8_square 12 (.inl false) 0 0 (tMo M b (A_square x y g w)) none 0 0 34 [some (.ref b), some (.int x), some (.int y), some (.int g), none, none] [.int (nI k), .ref b] (kset M b S)
    := by
    intro k h1 h2 e
    refine r_callV1i (pc := 34) lk_X8_167 dX8_square_34 (kget0 rfl) (s8_refused h2) (by decide) (Nat.le_of_ble_eq_true rfl) ⟨Nat.zero_le _, Nat.zero_le _⟩ ?_
    rw [decide_eq_true h1]
    refine b_if_eq (b := true) (pc := 37) 42 (by decide) dX8_square_37 (fun h9 => by cases h9) (fun _ => ?_)
    refine n_iconst_0 (pc := 40) dX8_square_40 ?_
    refine p_ireturn (pc := 41) false rfl rfl rfl dX8_square_41 (Nat.zero_le _) (Nat.zero_le _) (Or.inl rfl) ?_
    rw [e]
    exact ⟨rfl, _, h.ii0 _, rfl, rfl⟩
  have ok :
    G mX8_square 12 (.inl false) 0 0 (tMo M b (A_square x y g w)) none 0 0 42 [some (.ref b), some (.int x), some (.int y), some (.int g), none, none] [] (kset M b (ii S 0 (nI 0)))
    →
    G mX8_square 12 (.inl false) 0 0 (tMo M b (A_square x y g w)) none 0 0 34 [some (.ref b), some (.int x), some (.int y), some (.int g), none, none] [.int (nI 0), .ref b] (kset M b S)
    := by
    intro hb9
    refine r_callV1i (pc := 34) lk_X8_167 dX8_square_34 (kget0 rfl) (s8_refused (by decide)) (by decide) (Nat.le_of_ble_eq_true rfl) ⟨Nat.zero_le _, Nat.zero_le _⟩ ?_
    refine b_if_eq (b := false) (pc := 37) 42 (by decide) dX8_square_37 (fun _ => hb9) (fun h9 => by cases h9)
  have ea : A_square x y g w = if inQ (wz w) x y then (if inR g 5 then rO (sqZ (wz w) (sqn (wz w) x y) (nm g)) w else rN 2 w) else rN 1 w := rfl
  refine r_aload0 (pc := 0) dX8_square_0 ?_
  refine r_aload0 (pc := 1) dX8_square_1 ?_
  refine r_getf (pc := 2) fl_X8_13 dX8_square_2 (kget0 rfl) rfl ?_
  refine r_iload1 (pc := 5) dX8_square_5 ?_
  refine r_iload2 (pc := 6) dX8_square_6 ?_
  refine r_callS3i (pc := 7) lk_X8_158 dX8_square_7 (s8_isSquare hM hI hZ) (by decide) (Nat.le_of_ble_eq_true rfl) ⟨Nat.zero_le _, Nat.zero_le _⟩ ?_
  refine b_if_ne (pc := 10) 17 (by decide) dX8_square_10 (fun h1 => ?_) (fun h1 => ?_)
  · refine r_iload3 (pc := 17) dX8_square_17 ?_
    refine r_i2l (pc := 18) dX8_square_18 ?_
    refine r_lconst_0 (pc := 19) dX8_square_19 ?_
    refine r_ldc2 (v := (4)) (pc := 20) (tG 1301 (by decide +kernel) (by decide +kernel)) dX8_square_20 ?_
    refine r_callS3i (pc := 23) lk_X8_50 dX8_square_23 (s8_inAB (a := 0) (b := 4) (by decide) (by decide)) (by decide) (Nat.le_of_ble_eq_true rfl) ⟨Nat.zero_le _, Nat.zero_le _⟩ ?_
    rw [inB_R]
    have hq : inQ (wz w) x y = true := h1
    rw [hq] at ea
    have ea : A_square x y g w = if inR g 5 then rO (sqZ (wz w) (sqn (wz w) x y) (nm g)) w else rN 2 w := ea
    refine b_if_eq (pc := 26) 33 (by decide) dX8_square_26 (fun h2 => ?_) (fun h2 => ?_)
    · refine n_iconst_2 (pc := 33) dX8_square_33 ?_
      exact no 2 (by omega) (by omega) (by rw [ea, h2]; rfl)
    · rw [h2] at ea
      have ea : A_square x y g w = rO (sqZ (wz w) (sqn (wz w) x y) (nm g)) w := ea
      rw [Bool.and_eq_true] at h1
      obtain ⟨c1, c2⟩ := inR_nm h1.1 (by omega)
      obtain ⟨e1, e2⟩ := inR_nm h1.2 (by omega)
      obtain ⟨g1, g2⟩ := inR_nm h2 (by omega)
      unfold sqn at ea
      generalize nm x = n at *
      generalize nm y = m at *
      generalize nm g = j at *
      subst c2 e2 g2
      have hsq := sq_in c1 e1
      rw [Nat.mul_comm m] at ea
      refine n_iconst_0 (pc := 29) dX8_square_29 ?_
      refine r_goto (pc := 30) 34 (by decide) dX8_square_30 ?_
      refine ok ?_
      have hM0 : kset M b (ii S 0 (nI 0)) (b + 2) = some (cI 563 (S.2 1)) := kget rfl
      refine r_aload0 (pc := 42) dX8_square_42 ?_
      refine r_getf (pc := 43) fl_X8_13 dX8_square_43 (kget0 rfl) rfl ?_
      refine r_callS1i (pc := 46) lk_X8_40 dX8_square_46 (s8_wide hM0 hI) (by decide) (Nat.le_of_ble_eq_true rfl) ⟨Nat.zero_le _, Nat.zero_le _⟩ ?_
      refine r_iload2 (pc := 49) dX8_square_49 ?_
      first | refine n_imul (pc := 50) dX8_square_50 ?_ | refine z_imul (pc := 50) dX8_square_50 ?_ | refine r_imul (pc := 50) dX8_square_50 ?_
      refine r_iload1 (pc := 51) dX8_square_51 ?_
      first | refine n_iadd (pc := 52) dX8_square_52 ?_ | refine z_iadd (pc := 52) dX8_square_52 ?_ | refine r_iadd (pc := 52) dX8_square_52 ?_
      refine r_istore4 (pc := 53) dX8_square_53 rfl ?_
      refine r_aload0 (pc := 55) dX8_square_55 ?_
      refine r_getf (pc := 56) fl_X8_13 dX8_square_56 (kget0 rfl) rfl ?_
      refine r_iload4 (pc := 59) dX8_square_59 ?_
      refine r_callS2i (pc := 61) lk_X8_245 dX8_square_61 (s8_pipsOn hM0 hI hZ hsq) (by decide) (Nat.le_of_ble_eq_true rfl) ⟨Nat.zero_le _, Nat.zero_le _⟩ ?_
      refine r_istore5 (pc := 64) dX8_square_64 rfl ?_
      generalize zc (wz w) * m + n = s at *
      have hpz := pipZ_le hZ hsq
      have ret : ∀ (v : Int32) (lv : List (Option Value)), sqZ (wz w) s j = v → G mX8_square 12 (.inl false) 0 0 (tMo M b (A_square (nI n) (nI m) (nI j) w)) none 0 0 137 lv [.int v] (kset M b (ii S 0 (nI 0))) := by
        intro v lv e2
        refine p_ireturn (pc := 137) false rfl rfl rfl dX8_square_137 (Nat.zero_le _) (Nat.zero_le _) (Or.inl rfl) ?_
        rw [ea, e2]
        exact mo rfl rfl (h.ii0 (nI 0))
      have cc : j = 0 ∨ j = 1 ∨ j = 2 ∨ j = 3 ∨ j = 4 := by omega
      rcases cc with e | e | e | e | e <;> subst e
      · refine r_iload3 (pc := 66) dX8_square_66 ?_
        refine n_if_ne (pc := 67) 82 (by decide) dX8_square_67 (by omega) (fun hc67 => absurd hc67 (by omega)) (fun hc67 => ?_)
        refine r_aload0 (pc := 70) dX8_square_70 ?_
        refine r_getf (pc := 71) fl_X8_13 dX8_square_71 (kget0 rfl) rfl ?_
        refine n_iconst_3 (pc := 74) dX8_square_74 ?_
        refine r_iload4 (pc := 75) dX8_square_75 ?_
        first | refine n_iadd (pc := 77) dX8_square_77 ?_ | refine z_iadd (pc := 77) dX8_square_77 ?_ | refine r_iadd (pc := 77) dX8_square_77 ?_
        refine n_iald (pc := 78) dX8_square_78 hM0 (by omega) (by decide) (hI.G hsq) ?_
        refine r_goto (pc := 79) 137 (by decide) dX8_square_79 ?_
        exact ret _ _ rfl
      · refine r_iload3 (pc := 66) dX8_square_66 ?_
        refine n_if_ne (pc := 67) 82 (by decide) dX8_square_67 (by omega) (fun hc67 => ?_) (fun hc67 => absurd hc67 (by omega))
        refine r_iload3 (pc := 82) dX8_square_82 ?_
        refine n_iconst_1 (pc := 83) dX8_square_83 ?_
        refine n_icmp_ne (pc := 84) 99 (by decide) dX8_square_84 (by omega) (by omega) (fun hc84 => absurd hc84 (by omega)) (fun hc84 => ?_)
        refine r_aload0 (pc := 87) dX8_square_87 ?_
        refine r_getf (pc := 88) fl_X8_13 dX8_square_88 (kget0 rfl) rfl ?_
        refine r_iload5 (pc := 91) dX8_square_91 ?_
        refine r_callS2i (pc := 93) lk_X8_57 dX8_square_93 (s8_half hM0 hI hZ hpz) (by decide) (Nat.le_of_ble_eq_true rfl) ⟨Nat.zero_le _, Nat.zero_le _⟩ ?_
        refine r_goto (pc := 96) 137 (by decide) dX8_square_96 ?_
        exact ret _ _ rfl
      · refine r_iload3 (pc := 66) dX8_square_66 ?_
        refine n_if_ne (pc := 67) 82 (by decide) dX8_square_67 (by omega) (fun hc67 => ?_) (fun hc67 => absurd hc67 (by omega))
        refine r_iload3 (pc := 82) dX8_square_82 ?_
        refine n_iconst_1 (pc := 83) dX8_square_83 ?_
        refine n_icmp_ne (pc := 84) 99 (by decide) dX8_square_84 (by omega) (by omega) (fun hc84 => ?_) (fun hc84 => absurd hc84 (by omega))
        refine r_iload3 (pc := 99) dX8_square_99 ?_
        refine n_iconst_2 (pc := 100) dX8_square_100 ?_
        refine n_icmp_ne (pc := 101) 118 (by decide) dX8_square_101 (by omega) (by omega) (fun hc101 => absurd hc101 (by omega)) (fun hc101 => ?_)
        refine r_aload0 (pc := 104) dX8_square_104 ?_
        refine r_getf (pc := 105) fl_X8_13 dX8_square_105 (kget0 rfl) rfl ?_
        refine r_iload4 (pc := 108) dX8_square_108 ?_
        refine r_iload5 (pc := 110) dX8_square_110 ?_
        refine r_callS3i (pc := 112) lk_X8_67 dX8_square_112 (s8_errorOf hM0 hI hZ hsq hpz) (by decide) (Nat.le_of_ble_eq_true rfl) ⟨Nat.zero_le _, Nat.zero_le _⟩ ?_
        refine r_goto (pc := 115) 137 (by decide) dX8_square_115 ?_
        exact ret _ _ rfl
      · refine r_iload3 (pc := 66) dX8_square_66 ?_
        refine n_if_ne (pc := 67) 82 (by decide) dX8_square_67 (by omega) (fun hc67 => ?_) (fun hc67 => absurd hc67 (by omega))
        refine r_iload3 (pc := 82) dX8_square_82 ?_
        refine n_iconst_1 (pc := 83) dX8_square_83 ?_
        refine n_icmp_ne (pc := 84) 99 (by decide) dX8_square_84 (by omega) (by omega) (fun hc84 => ?_) (fun hc84 => absurd hc84 (by omega))
        refine r_iload3 (pc := 99) dX8_square_99 ?_
        refine n_iconst_2 (pc := 100) dX8_square_100 ?_
        refine n_icmp_ne (pc := 101) 118 (by decide) dX8_square_101 (by omega) (by omega) (fun hc101 => ?_) (fun hc101 => absurd hc101 (by omega))
        refine r_iload3 (pc := 118) dX8_square_118 ?_
        refine n_iconst_3 (pc := 119) dX8_square_119 ?_
        refine n_icmp_ne (pc := 120) 135 (by decide) dX8_square_120 (by omega) (by omega) (fun hc120 => absurd hc120 (by omega)) (fun hc120 => ?_)
        refine r_aload0 (pc := 123) dX8_square_123 ?_
        refine r_getf (pc := 124) fl_X8_13 dX8_square_124 (kget0 rfl) rfl ?_
        refine r_iload4 (pc := 127) dX8_square_127 ?_
        refine r_callS2i (pc := 129) lk_X8_248 dX8_square_129 (s8_placeOf hM0 hI hZ hsq) (by decide) (Nat.le_of_ble_eq_true rfl) ⟨Nat.zero_le _, Nat.zero_le _⟩ ?_
        refine r_goto (pc := 132) 137 (by decide) dX8_square_132 ?_
        exact ret _ _ rfl
      · refine r_iload3 (pc := 66) dX8_square_66 ?_
        refine n_if_ne (pc := 67) 82 (by decide) dX8_square_67 (by omega) (fun hc67 => ?_) (fun hc67 => absurd hc67 (by omega))
        refine r_iload3 (pc := 82) dX8_square_82 ?_
        refine n_iconst_1 (pc := 83) dX8_square_83 ?_
        refine n_icmp_ne (pc := 84) 99 (by decide) dX8_square_84 (by omega) (by omega) (fun hc84 => ?_) (fun hc84 => absurd hc84 (by omega))
        refine r_iload3 (pc := 99) dX8_square_99 ?_
        refine n_iconst_2 (pc := 100) dX8_square_100 ?_
        refine n_icmp_ne (pc := 101) 118 (by decide) dX8_square_101 (by omega) (by omega) (fun hc101 => ?_) (fun hc101 => absurd hc101 (by omega))
        refine r_iload3 (pc := 118) dX8_square_118 ?_
        refine n_iconst_3 (pc := 119) dX8_square_119 ?_
        refine n_icmp_ne (pc := 120) 135 (by decide) dX8_square_120 (by omega) (by omega) (fun hc120 => ?_) (fun hc120 => absurd hc120 (by omega))
        refine r_iload5 (pc := 135) dX8_square_135 ?_
        exact ret _ _ rfl
  · refine n_iconst_1 (pc := 13) dX8_square_13 ?_
    refine r_goto (pc := 14) 34 (by decide) dX8_square_14 ?_
    have hq : inQ (wz w) x y = false := h1
    exact no 1 (by omega) (by omega) (by rw [ea, hq]; rfl)
set_option maxRecDepth 20000 in
theorem s8_place (h : MODEL S w) (hW : WOK w) {x y : Int32} : SpecP mX8_place 12 0 0 [.ref b, .int x, .int y] (kset M b S) (tMo M b (A_place x y w)) := by
  have hZ := hW.z
  have hd := hZ.dims
  have hI := h.r
  have hk14 := hW.2.1.1
  have hn120 := hW.2.2.2.1
  have ha := h.a
  have hn := h.n
  have hM : kset M b S (b + 2) = some (cI 563 (S.2 1)) := kget rfl
  refine Spec_of [some (.ref b), some (.int x), some (.int y), none] (by decide) (Nat.le_of_ble_eq_true rfl) rfl ?_
  have no : ∀ k, 0 < k → k < 10 → A_place x y w = rN k w →
    G mX8_place 12 (.inl false) 0 0 (tMo M b (A_place x y w)) none 0 0 33 [some (.ref b), some (.int x), some (.int y), none] [.int (nI k), .ref b] (kset M b S)
    := by
    intro k h1 h2 e
    refine r_callV1i (pc := 33) lk_X8_167 dX8_place_33 (kget0 rfl) (s8_refused h2) (by decide) (Nat.le_of_ble_eq_true rfl) ⟨Nat.zero_le _, Nat.zero_le _⟩ ?_
    rw [decide_eq_true h1]
    refine b_if_eq (b := true) (pc := 36) 41 (by decide) dX8_place_36 (fun h9 => by cases h9) (fun _ => ?_)
    refine n_iconst_0 (pc := 39) dX8_place_39 ?_
    refine p_ireturn (pc := 40) false rfl rfl rfl dX8_place_40 (Nat.zero_le _) (Nat.zero_le _) (Or.inl rfl) ?_
    rw [e]
    exact ⟨rfl, _, h.ii0 _, rfl, rfl⟩
  have ok :
    G mX8_place 12 (.inl false) 0 0 (tMo M b (A_place x y w)) none 0 0 41 [some (.ref b), some (.int x), some (.int y), none] [] (kset M b (ii S 0 (nI 0)))
    →
    G mX8_place 12 (.inl false) 0 0 (tMo M b (A_place x y w)) none 0 0 33 [some (.ref b), some (.int x), some (.int y), none] [.int (nI 0), .ref b] (kset M b S)
    := by
    intro hb9
    refine r_callV1i (pc := 33) lk_X8_167 dX8_place_33 (kget0 rfl) (s8_refused (by decide)) (by decide) (Nat.le_of_ble_eq_true rfl) ⟨Nat.zero_le _, Nat.zero_le _⟩ ?_
    refine b_if_eq (b := false) (pc := 36) 41 (by decide) dX8_place_36 (fun _ => hb9) (fun h9 => by cases h9)
  have ea : A_place x y w = if inR x (zt (wz w)) then (if inR y 7 then rO (plcZ (wz w) (nm x) (nm y)) w else rN 2 w) else rN 1 w := rfl
  refine r_aload0 (pc := 0) dX8_place_0 ?_
  refine r_aload0 (pc := 1) dX8_place_1 ?_
  refine r_getf (pc := 2) fl_X8_13 dX8_place_2 (kget0 rfl) rfl ?_
  refine r_iload1 (pc := 5) dX8_place_5 ?_
  refine r_callS2i (pc := 6) lk_X8_152 dX8_place_6 (s8_isPlace hM hI hZ) (by decide) (Nat.le_of_ble_eq_true rfl) ⟨Nat.zero_le _, Nat.zero_le _⟩ ?_
  refine b_if_ne (pc := 9) 16 (by decide) dX8_place_9 (fun h1 => ?_) (fun h1 => ?_)
  · refine r_iload2 (pc := 16) dX8_place_16 ?_
    refine r_i2l (pc := 17) dX8_place_17 ?_
    refine r_lconst_0 (pc := 18) dX8_place_18 ?_
    refine r_ldc2 (v := (6)) (pc := 19) (tG 1315 (by decide +kernel) (by decide +kernel)) dX8_place_19 ?_
    refine r_callS3i (pc := 22) lk_X8_50 dX8_place_22 (s8_inAB (a := 0) (b := 6) (by decide) (by decide)) (by decide) (Nat.le_of_ble_eq_true rfl) ⟨Nat.zero_le _, Nat.zero_le _⟩ ?_
    rw [inB_R]
    rw [h1] at ea
    have ea : A_place x y w = if inR y 7 then rO (plcZ (wz w) (nm x) (nm y)) w else rN 2 w := ea
    refine b_if_eq (pc := 25) 32 (by decide) dX8_place_25 (fun h2 => ?_) (fun h2 => ?_)
    · refine n_iconst_2 (pc := 32) dX8_place_32 ?_
      exact no 2 (by omega) (by omega) (by rw [ea, h2]; rfl)
    · rw [h2] at ea
      have ea : A_place x y w = rO (plcZ (wz w) (nm x) (nm y)) w := ea
      obtain ⟨c1, c2⟩ := inR_nm h1 (by omega)
      obtain ⟨g1, g2⟩ := inR_nm h2 (by omega)
      generalize nm x = k at *
      generalize nm y = j at *
      subst c2 g2
      have hqk := hZ.fq c1
      have hlp := lz_pos (wz w) k
      refine n_iconst_0 (pc := 28) dX8_place_28 ?_
      refine r_goto (pc := 29) 33 (by decide) dX8_place_29 ?_
      refine ok ?_
      have hM0 : kset M b (ii S 0 (nI 0)) (b + 2) = some (cI 563 (S.2 1)) := kget rfl
      refine r_aload0 (pc := 41) dX8_place_41 ?_
      refine r_getf (pc := 42) fl_X8_13 dX8_place_42 (kget0 rfl) rfl ?_
      refine r_iload1 (pc := 45) dX8_place_45 ?_
      refine r_callS2i (pc := 46) lk_X8_123 dX8_place_46 (s8_firstOf hM0 hI hZ c1) (by decide) (Nat.le_of_ble_eq_true rfl) ⟨Nat.zero_le _, Nat.zero_le _⟩ ?_
      refine r_istore3 (pc := 49) dX8_place_49 rfl ?_
      have ret : ∀ (pc : Nat) (v : Int32) (lv : List (Option Value)), dec mX8_place pc = .ok (.ireturn, 1) → plcZ (wz w) k j = v → G mX8_place 12 (.inl false) 0 0 (tMo M b (A_place (nI k) (nI j) w)) none 0 0 pc lv [.int v] (kset M b (ii S 0 (nI 0))) := by
        intro pc v lv h0 e2
        refine p_ireturn (pc := pc) false rfl rfl rfl h0 (Nat.zero_le _) (Nat.zero_le _) (Or.inl rfl) ?_
        rw [ea, e2]
        exact mo rfl rfl (h.ii0 (nI 0))
      have cc : j = 0 ∨ j = 1 ∨ j = 2 ∨ j = 3 ∨ j = 4 ∨ j = 5 ∨ j = 6 := by omega
      rcases cc with e | e | e | e | e | e | e <;> subst e
      · refine r_iload2 (pc := 50) dX8_place_50 ?_
        refine r_tableIn (pc := 51) 88 (by decide) (by decide) rfl (by decide) dX8_place_51 ?_
        refine r_iload3 (pc := 88) dX8_place_88 ?_
        exact ret 89 _ _ dX8_place_89 rfl
      · refine r_iload2 (pc := 50) dX8_place_50 ?_
        refine r_tableIn (pc := 51) 90 (by decide) (by decide) rfl (by decide) dX8_place_51 ?_
        refine r_aload0 (pc := 90) dX8_place_90 ?_
        refine r_getf (pc := 91) fl_X8_13 dX8_place_91 (kget0 rfl) rfl ?_
        refine r_iload3 (pc := 94) dX8_place_94 ?_
        refine r_callS2i (pc := 95) lk_X8_82 dX8_place_95 (s8_otherOf hM0 hI hZ c1) (by decide) (Nat.le_of_ble_eq_true rfl) ⟨Nat.zero_le _, Nat.zero_le _⟩ ?_
        exact ret 98 _ _ dX8_place_98 rfl
      · refine r_iload2 (pc := 50) dX8_place_50 ?_
        refine r_tableIn (pc := 51) 99 (by decide) (by decide) rfl (by decide) dX8_place_51 ?_
        refine r_aload0 (pc := 99) dX8_place_99 ?_
        refine r_getf (pc := 100) fl_X8_13 dX8_place_100 (kget0 rfl) rfl ?_
        refine n_sipush (pc := 103) 227 (by decide) dX8_place_103 ?_
        refine r_iload3 (pc := 106) dX8_place_106 ?_
        first | refine n_iadd (pc := 107) dX8_place_107 ?_ | refine z_iadd (pc := 107) dX8_place_107 ?_ | refine r_iadd (pc := 107) dX8_place_107 ?_
        refine n_iald (pc := 108) dX8_place_108 hM0 (by omega) (by decide) (hI.T c1) ?_
        exact ret 109 _ _ dX8_place_109 rfl
      · refine r_iload2 (pc := 50) dX8_place_50 ?_
        refine r_tableIn (pc := 51) 110 (by decide) (by decide) rfl (by decide) dX8_place_51 ?_
        refine r_aload0 (pc := 110) dX8_place_110 ?_
        refine r_getf (pc := 111) fl_X8_13 dX8_place_111 (kget0 rfl) rfl ?_
        refine n_sipush (pc := 114) 339 (by decide) dX8_place_114 ?_
        refine r_iload3 (pc := 117) dX8_place_117 ?_
        first | refine n_iadd (pc := 118) dX8_place_118 ?_ | refine z_iadd (pc := 118) dX8_place_118 ?_ | refine r_iadd (pc := 118) dX8_place_118 ?_
        refine n_iald (pc := 119) dX8_place_119 hM0 (by omega) (by decide) (hI.U c1) ?_
        exact ret 120 _ _ dX8_place_120 rfl
      · refine r_iload2 (pc := 50) dX8_place_50 ?_
        refine r_tableIn (pc := 51) 121 (by decide) (by decide) rfl (by decide) dX8_place_51 ?_
        refine r_aload0 (pc := 121) dX8_place_121 ?_
        refine r_getf (pc := 122) fl_X8_13 dX8_place_122 (kget0 rfl) rfl ?_
        refine r_iload3 (pc := 125) dX8_place_125 ?_
        refine r_callS2i (pc := 126) lk_X8_85 dX8_place_126 (s8_placeError hM0 hI hZ c1) (by decide) (Nat.le_of_ble_eq_true rfl) ⟨Nat.zero_le _, Nat.zero_le _⟩ ?_
        exact ret 129 _ _ dX8_place_129 rfl
      · refine r_iload2 (pc := 50) dX8_place_50 ?_
        refine r_tableIn (pc := 51) 130 (by decide) (by decide) rfl (by decide) dX8_place_51 ?_
        refine r_aload0 (pc := 130) dX8_place_130 ?_
        refine r_getf (pc := 131) fl_X8_13 dX8_place_131 (kget0 rfl) rfl ?_
        refine n_sipush (pc := 134) 451 (by decide) dX8_place_134 ?_
        refine r_iload3 (pc := 137) dX8_place_137 ?_
        first | refine n_iadd (pc := 138) dX8_place_138 ?_ | refine z_iadd (pc := 138) dX8_place_138 ?_ | refine r_iadd (pc := 138) dX8_place_138 ?_
        refine n_iald (pc := 139) dX8_place_139 hM0 (by omega) (by decide) (hI.H c1) ?_
        exact ret 140 _ _ dX8_place_140 rfl
      · refine r_iload2 (pc := 50) dX8_place_50 ?_
        refine r_tableOut (pc := 51) 141 (Or.inr (by decide)) (by decide) dX8_place_51 ?_
        refine r_aload0 (pc := 141) dX8_place_141 ?_
        refine r_getf (pc := 142) fl_X8_13 dX8_place_142 (kget0 rfl) rfl ?_
        refine n_bipush (pc := 145) 115 (by decide) dX8_place_145 ?_
        refine r_iload3 (pc := 147) dX8_place_147 ?_
        first | refine n_iadd (pc := 148) dX8_place_148 ?_ | refine z_iadd (pc := 148) dX8_place_148 ?_ | refine r_iadd (pc := 148) dX8_place_148 ?_
        refine n_iald (pc := 149) dX8_place_149 hM0 (by omega) (by decide) (hI.L c1) ?_
        refine n_iconst_1 (pc := 150) dX8_place_150 ?_
        have e6 : plcZ (wz w) k 6 = bI (al (wz w) k) := rfl
        refine n_icmp_ne (pc := 151) 158 (by decide) dX8_place_151 (by omega) (by omega) (fun h9 => ?_) (fun h9 => ?_)
        · refine n_iconst_0 (pc := 158) dX8_place_158 ?_
          refine ret 159 _ _ dX8_place_159 ?_
          rw [e6]
          cases q : al (wz w) k with
          | false => rfl
          | true => exact absurd ((zN_al hZ c1).mp q) h9
        · refine n_iconst_1 (pc := 154) dX8_place_154 ?_
          refine r_goto (pc := 155) 159 (by decide) dX8_place_155 ?_
          refine ret 159 _ _ dX8_place_159 ?_
          rw [e6, (zN_al hZ c1).mpr h9]; rfl
  · refine n_iconst_1 (pc := 12) dX8_place_12 ?_
    refine r_goto (pc := 13) 33 (by decide) dX8_place_13 ?_
    exact no 1 (by omega) (by omega) (by rw [ea, h1]; rfl)
set_option maxRecDepth 20000 in
theorem s8_tile (h : MODEL S w) (hW : WOK w) {x y : Int32} : SpecP mX8_tile 12 0 0 [.ref b, .int x, .int y] (kset M b S) (tMo M b (A_tile x y w)) := by
  have hZ := hW.z
  have hd := hZ.dims
  have hI := h.r
  have hk14 := hW.2.1.1
  have hn120 := hW.2.2.2.1
  have ha := h.a
  have hn := h.n
  have hM : kset M b S (b + 2) = some (cI 563 (S.2 1)) := kget rfl
  refine Spec_of [some (.ref b), some (.int x), some (.int y)] (by decide) (Nat.le_of_ble_eq_true rfl) rfl ?_
  have no : ∀ k, 0 < k → k < 10 → A_tile x y w = rN k w →
    G mX8_tile 12 (.inl false) 0 0 (tMo M b (A_tile x y w)) none 0 0 33 [some (.ref b), some (.int x), some (.int y)] [.int (nI k), .ref b] (kset M b S)
    := by
    intro k h1 h2 e
    refine r_callV1i (pc := 33) lk_X8_167 dX8_tile_33 (kget0 rfl) (s8_refused h2) (by decide) (Nat.le_of_ble_eq_true rfl) ⟨Nat.zero_le _, Nat.zero_le _⟩ ?_
    rw [decide_eq_true h1]
    refine b_if_eq (b := true) (pc := 36) 41 (by decide) dX8_tile_36 (fun h9 => by cases h9) (fun _ => ?_)
    refine n_iconst_0 (pc := 39) dX8_tile_39 ?_
    refine p_ireturn (pc := 40) false rfl rfl rfl dX8_tile_40 (Nat.zero_le _) (Nat.zero_le _) (Or.inl rfl) ?_
    rw [e]
    exact ⟨rfl, _, h.ii0 _, rfl, rfl⟩
  have ok :
    G mX8_tile 12 (.inl false) 0 0 (tMo M b (A_tile x y w)) none 0 0 41 [some (.ref b), some (.int x), some (.int y)] [] (kset M b (ii S 0 (nI 0)))
    →
    G mX8_tile 12 (.inl false) 0 0 (tMo M b (A_tile x y w)) none 0 0 33 [some (.ref b), some (.int x), some (.int y)] [.int (nI 0), .ref b] (kset M b S)
    := by
    intro hb9
    refine r_callV1i (pc := 33) lk_X8_167 dX8_tile_33 (kget0 rfl) (s8_refused (by decide)) (by decide) (Nat.le_of_ble_eq_true rfl) ⟨Nat.zero_le _, Nat.zero_le _⟩ ?_
    refine b_if_eq (b := false) (pc := 36) 41 (by decide) dX8_tile_36 (fun _ => hb9) (fun h9 => by cases h9)
  have ea : A_tile x y w = if inR x (zt (wz w)) then (if inR y 3 then rO (tilZ (wz w) (nm x) (nm y)) w else rN 2 w) else rN 1 w := rfl
  refine r_aload0 (pc := 0) dX8_tile_0 ?_
  refine r_aload0 (pc := 1) dX8_tile_1 ?_
  refine r_getf (pc := 2) fl_X8_13 dX8_tile_2 (kget0 rfl) rfl ?_
  refine r_iload1 (pc := 5) dX8_tile_5 ?_
  refine r_callS2i (pc := 6) lk_X8_152 dX8_tile_6 (s8_isPlace hM hI hZ) (by decide) (Nat.le_of_ble_eq_true rfl) ⟨Nat.zero_le _, Nat.zero_le _⟩ ?_
  refine b_if_ne (pc := 9) 16 (by decide) dX8_tile_9 (fun h1 => ?_) (fun h1 => ?_)
  · refine r_iload2 (pc := 16) dX8_tile_16 ?_
    refine r_i2l (pc := 17) dX8_tile_17 ?_
    refine r_lconst_0 (pc := 18) dX8_tile_18 ?_
    refine r_ldc2 (v := (2)) (pc := 19) (tG 1320 (by decide +kernel) (by decide +kernel)) dX8_tile_19 ?_
    refine r_callS3i (pc := 22) lk_X8_50 dX8_tile_22 (s8_inAB (a := 0) (b := 2) (by decide) (by decide)) (by decide) (Nat.le_of_ble_eq_true rfl) ⟨Nat.zero_le _, Nat.zero_le _⟩ ?_
    rw [inB_R]
    rw [h1] at ea
    have ea : A_tile x y w = if inR y 3 then rO (tilZ (wz w) (nm x) (nm y)) w else rN 2 w := ea
    refine b_if_eq (pc := 25) 32 (by decide) dX8_tile_25 (fun h2 => ?_) (fun h2 => ?_)
    · refine n_iconst_2 (pc := 32) dX8_tile_32 ?_
      exact no 2 (by omega) (by omega) (by rw [ea, h2]; rfl)
    · rw [h2] at ea
      have ea : A_tile x y w = rO (tilZ (wz w) (nm x) (nm y)) w := ea
      obtain ⟨c1, c2⟩ := inR_nm h1 (by omega)
      obtain ⟨g1, g2⟩ := inR_nm h2 (by omega)
      generalize nm x = k at *
      generalize nm y = j at *
      subst c2 g2
      refine n_iconst_0 (pc := 28) dX8_tile_28 ?_
      refine r_goto (pc := 29) 33 (by decide) dX8_tile_29 ?_
      refine ok ?_
      have hM0 : kset M b (ii S 0 (nI 0)) (b + 2) = some (cI 563 (S.2 1)) := kget rfl
      have ret : ∀ (v : Int32) (lv : List (Option Value)), tilZ (wz w) k j = v → G mX8_tile 12 (.inl false) 0 0 (tMo M b (A_tile (nI k) (nI j) w)) none 0 0 80 lv [.int v] (kset M b (ii S 0 (nI 0))) := by
        intro v lv e2
        refine p_ireturn (pc := 80) false rfl rfl rfl dX8_tile_80 (Nat.zero_le _) (Nat.zero_le _) (Or.inl rfl) ?_
        rw [ea, e2]
        exact mo rfl rfl (h.ii0 (nI 0))
      have cc : j = 0 ∨ j = 1 ∨ j = 2 := by omega
      rcases cc with e | e | e <;> subst e
      · refine r_iload2 (pc := 41) dX8_tile_41 ?_
        refine n_if_ne (pc := 42) 56 (by decide) dX8_tile_42 (by omega) (fun hc42 => absurd hc42 (by omega)) (fun hc42 => ?_)
        refine r_aload0 (pc := 45) dX8_tile_45 ?_
        refine r_getf (pc := 46) fl_X8_13 dX8_tile_46 (kget0 rfl) rfl ?_
        refine r_iload1 (pc := 49) dX8_tile_49 ?_
        refine r_callS2i (pc := 50) lk_X8_64 dX8_tile_50 (s8_lowPips hM0 hI hZ (by omega)) (by decide) (Nat.le_of_ble_eq_true rfl) ⟨Nat.zero_le _, Nat.zero_le _⟩ ?_
        refine r_goto (pc := 53) 80 (by decide) dX8_tile_53 ?_
        exact ret _ _ rfl
      · refine r_iload2 (pc := 41) dX8_tile_41 ?_
        refine n_if_ne (pc := 42) 56 (by decide) dX8_tile_42 (by omega) (fun hc42 => ?_) (fun hc42 => absurd hc42 (by omega))
        refine r_iload2 (pc := 56) dX8_tile_56 ?_
        refine n_iconst_1 (pc := 57) dX8_tile_57 ?_
        refine n_icmp_ne (pc := 58) 72 (by decide) dX8_tile_58 (by omega) (by omega) (fun hc58 => absurd hc58 (by omega)) (fun hc58 => ?_)
        refine r_aload0 (pc := 61) dX8_tile_61 ?_
        refine r_getf (pc := 62) fl_X8_13 dX8_tile_62 (kget0 rfl) rfl ?_
        refine r_iload1 (pc := 65) dX8_tile_65 ?_
        refine r_callS2i (pc := 66) lk_X8_61 dX8_tile_66 (s8_highPips hM0 hI hZ (by omega)) (by decide) (Nat.le_of_ble_eq_true rfl) ⟨Nat.zero_le _, Nat.zero_le _⟩ ?_
        refine r_goto (pc := 69) 80 (by decide) dX8_tile_69 ?_
        exact ret _ _ rfl
      · refine r_iload2 (pc := 41) dX8_tile_41 ?_
        refine n_if_ne (pc := 42) 56 (by decide) dX8_tile_42 (by omega) (fun hc42 => ?_) (fun hc42 => absurd hc42 (by omega))
        refine r_iload2 (pc := 56) dX8_tile_56 ?_
        refine n_iconst_1 (pc := 57) dX8_tile_57 ?_
        refine n_icmp_ne (pc := 58) 72 (by decide) dX8_tile_58 (by omega) (by omega) (fun hc58 => ?_) (fun hc58 => absurd hc58 (by omega))
        refine r_aload0 (pc := 72) dX8_tile_72 ?_
        refine r_getf (pc := 73) fl_X8_13 dX8_tile_73 (kget0 rfl) rfl ?_
        refine r_iload1 (pc := 76) dX8_tile_76 ?_
        refine r_callS2i (pc := 77) lk_X8_255 dX8_tile_77 (s8_whereLies hM0 hI hZ c1) (by decide) (Nat.le_of_ble_eq_true rfl) ⟨Nat.zero_le _, Nat.zero_le _⟩ ?_
        exact ret _ _ rfl
  · refine n_iconst_1 (pc := 12) dX8_tile_12 ?_
    refine r_goto (pc := 13) 33 (by decide) dX8_tile_13 ?_
    exact no 1 (by omega) (by omega) (by rw [ea, h1]; rfl)
set_option maxRecDepth 20000 in
theorem s8_gain (h : MODEL S w) (hW : WOK w) {x : Int32} : SpecP mX8_gain 12 0 0 [.ref b, .int x] (kset M b S) (tMo M b (A_gain x w)) := by
  have hZ := hW.z
  have hd := hZ.dims
  have hI := h.r
  have hk14 := hW.2.1.1
  have hn120 := hW.2.2.2.1
  have ha := h.a
  have hn := h.n
  have hM : kset M b S (b + 2) = some (cI 563 (S.2 1)) := kget rfl
  refine Spec_of [some (.ref b), some (.int x), none] (by decide) (Nat.le_of_ble_eq_true rfl) rfl ?_
  have no : ∀ k, 0 < k → k < 10 → A_gain x w = rN k w →
    G mX8_gain 12 (.inl false) 0 0 (tMo M b (A_gain x w)) none 0 0 17 [some (.ref b), some (.int x), none] [.int (nI k), .ref b] (kset M b S)
    := by
    intro k h1 h2 e
    refine r_callV1i (pc := 17) lk_X8_167 dX8_gain_17 (kget0 rfl) (s8_refused h2) (by decide) (Nat.le_of_ble_eq_true rfl) ⟨Nat.zero_le _, Nat.zero_le _⟩ ?_
    rw [decide_eq_true h1]
    refine b_if_eq (b := true) (pc := 20) 25 (by decide) dX8_gain_20 (fun h9 => by cases h9) (fun _ => ?_)
    refine n_iconst_0 (pc := 23) dX8_gain_23 ?_
    refine p_ireturn (pc := 24) false rfl rfl rfl dX8_gain_24 (Nat.zero_le _) (Nat.zero_le _) (Or.inl rfl) ?_
    rw [e]
    exact ⟨rfl, _, h.ii0 _, rfl, rfl⟩
  have ok :
    G mX8_gain 12 (.inl false) 0 0 (tMo M b (A_gain x w)) none 0 0 25 [some (.ref b), some (.int x), none] [] (kset M b (ii S 0 (nI 0)))
    →
    G mX8_gain 12 (.inl false) 0 0 (tMo M b (A_gain x w)) none 0 0 17 [some (.ref b), some (.int x), none] [.int (nI 0), .ref b] (kset M b S)
    := by
    intro hb9
    refine r_callV1i (pc := 17) lk_X8_167 dX8_gain_17 (kget0 rfl) (s8_refused (by decide)) (by decide) (Nat.le_of_ble_eq_true rfl) ⟨Nat.zero_le _, Nat.zero_le _⟩ ?_
    refine b_if_eq (b := false) (pc := 20) 25 (by decide) dX8_gain_20 (fun _ => hb9) (fun h9 => by cases h9)
  have ea : A_gain x w = if inR x 30000 && posZ (wz w) (nm x) then rO (iI (gnZ (wz w) (nm x))) w else rN 1 w := rfl
  refine r_aload0 (pc := 0) dX8_gain_0 ?_
  refine r_aload0 (pc := 1) dX8_gain_1 ?_
  refine r_getf (pc := 2) fl_X8_13 dX8_gain_2 (kget0 rfl) rfl ?_
  refine r_iload1 (pc := 5) dX8_gain_5 ?_
  refine r_callS2i (pc := 6) lk_X8_267 dX8_gain_6 (s8_isChange hM hI hZ) (by decide) (Nat.le_of_ble_eq_true rfl) ⟨Nat.zero_le _, Nat.zero_le _⟩ ?_
  refine b_if_eq (pc := 9) 16 (by decide) dX8_gain_9 (fun h1 => ?_) (fun h1 => ?_)
  · refine n_iconst_1 (pc := 16) dX8_gain_16 ?_
    exact no 1 (by omega) (by omega) (by rw [ea, h1]; rfl)
  · rw [h1] at ea
    have ea : A_gain x w = rO (iI (gnZ (wz w) (nm x))) w := ea
    rw [Bool.and_eq_true] at h1
    obtain ⟨c1, c2⟩ := inR_nm h1.1 (by omega)
    have hp := h1.2
    generalize nm x = n at *
    subst c2
    refine n_iconst_0 (pc := 12) dX8_gain_12 ?_
    refine r_goto (pc := 13) 17 (by decide) dX8_gain_13 ?_
    refine ok ?_
    have hM0 : kset M b (ii S 0 (nI 0)) (b + 2) = some (cI 563 (S.2 1)) := kget rfl
    have ret : ∀ (v : Int32) (lv : List (Option Value)), iI (gnZ (wz w) n) = v → G mX8_gain 12 (.inl false) 0 0 (tMo M b (A_gain (nI n) w)) none 0 0 103 lv [.int v] (kset M b (ii S 0 (nI 0))) := by
      intro v lv e2
      refine p_ireturn (pc := 103) false rfl rfl rfl dX8_gain_103 (Nat.zero_le _) (Nat.zero_le _) (Or.inl rfl) ?_
      rw [ea, e2]
      exact mo rfl rfl (h.ii0 (nI 0))
    refine r_iload1 (pc := 25) dX8_gain_25 ?_
    refine n_sipush (pc := 26) 10000 (by decide) dX8_gain_26 ?_
    refine n_irem (pc := 29) dX8_gain_29 (by omega) (by omega) (by omega) ?_
    refine r_istore2 (pc := 30) dX8_gain_30 rfl ?_
    refine r_iload1 (pc := 31) dX8_gain_31 ?_
    refine n_sipush (pc := 32) 10000 (by decide) dX8_gain_32 ?_
    refine n_icmp_ge (pc := 35) 56 (by decide) dX8_gain_35 (by omega) (by omega) (fun h2 => ?_) (fun h2 => ?_)
    · refine r_iload1 (pc := 56) dX8_gain_56 ?_
      refine n_sipush (pc := 57) 20000 (by decide) dX8_gain_57 ?_
      refine n_icmp_ge (pc := 60) 95 (by decide) dX8_gain_60 (by omega) (by omega) (fun h3 => ?_) (fun h3 => ?_)
      · unfold posZ at hp
        rw [if_neg (by omega), if_neg (by omega)] at hp
        obtain ⟨k, hb⟩ := Option.isSome_iff_exists.mp hp
        obtain ⟨hk, hf, hs⟩ := (blk_some hZ).mp hb
        obtain ⟨l, hl⟩ := Option.isSome_iff_exists.mp hs
        have eg : gnZ (wz w) n = fgZ (wz w) k l := by unfold gnZ; rw [if_neg (by omega), if_neg (by omega), hb]; simp [hl]
        rw [← hf]
        refine r_aload0 (pc := 95) dX8_gain_95 ?_
        refine r_getf (pc := 96) fl_X8_13 dX8_gain_96 (kget0 rfl) rfl ?_
        refine r_iload2 (pc := 99) dX8_gain_99 ?_
        refine r_callS2i (pc := 100) lk_X8_103 dX8_gain_100 (s8_gainOfFlip hM0 hI hZ hk hl) (by decide) (Nat.le_of_ble_eq_true rfl) ⟨Nat.zero_le _, Nat.zero_le _⟩ ?_
        exact ret _ _ (by rw [eg])
      · unfold posZ at hp
        rw [if_neg (by omega), if_pos (by omega)] at hp
        simp at hp
        have eg : gnZ (wz w) n = sgZ (wz w) (n % 10000 / 100) (n % 10000 % 100) := by unfold gnZ; rw [if_neg (by omega), if_pos (by omega)]
        refine r_aload0 (pc := 63) dX8_gain_63 ?_
        refine r_getf (pc := 64) fl_X8_13 dX8_gain_64 (kget0 rfl) rfl ?_
        refine r_aload0 (pc := 67) dX8_gain_67 ?_
        refine r_getf (pc := 68) fl_X8_13 dX8_gain_68 (kget0 rfl) rfl ?_
        refine r_iload2 (pc := 71) dX8_gain_71 ?_
        refine n_bipush (pc := 72) 100 (by decide) dX8_gain_72 ?_
        refine n_idiv (pc := 74) dX8_gain_74 (by omega) (by omega) (by omega) ?_
        refine r_callS2i (pc := 75) lk_X8_123 dX8_gain_75 (s8_firstOf hM0 hI hZ (k := n % 10000 / 100) (by omega)) (by decide) (Nat.le_of_ble_eq_true rfl) ⟨Nat.zero_le _, Nat.zero_le _⟩ ?_
        refine r_aload0 (pc := 78) dX8_gain_78 ?_
        refine r_getf (pc := 79) fl_X8_13 dX8_gain_79 (kget0 rfl) rfl ?_
        refine r_iload2 (pc := 82) dX8_gain_82 ?_
        refine n_bipush (pc := 83) 100 (by decide) dX8_gain_83 ?_
        refine n_irem (pc := 85) dX8_gain_85 (by omega) (by omega) (by omega) ?_
        refine r_callS2i (pc := 86) lk_X8_123 dX8_gain_86 (s8_firstOf hM0 hI hZ (k := n % 10000 % 100) (by omega)) (by decide) (Nat.le_of_ble_eq_true rfl) ⟨Nat.zero_le _, Nat.zero_le _⟩ ?_
        refine r_callS3i (pc := 89) lk_X8_97 dX8_gain_89 (s8_gainOfSwap hM0 hI hZ (by omega) (by omega)) (by decide) (Nat.le_of_ble_eq_true rfl) ⟨Nat.zero_le _, Nat.zero_le _⟩ ?_
        refine r_goto (pc := 92) 103 (by decide) dX8_gain_92 ?_
        exact ret _ _ (by rw [eg])
    · unfold posZ at hp
      rw [if_pos h2] at hp
      simp at hp
      have eg : gnZ (wz w) n = tgZ (wz w) n := by unfold gnZ; rw [if_pos h2]
      rw [show n % 10000 = n by omega]
      refine r_aload0 (pc := 38) dX8_gain_38 ?_
      refine r_getf (pc := 39) fl_X8_13 dX8_gain_39 (kget0 rfl) rfl ?_
      refine r_aload0 (pc := 42) dX8_gain_42 ?_
      refine r_getf (pc := 43) fl_X8_13 dX8_gain_43 (kget0 rfl) rfl ?_
      refine r_iload2 (pc := 46) dX8_gain_46 ?_
      refine r_callS2i (pc := 47) lk_X8_123 dX8_gain_47 (s8_firstOf hM0 hI hZ hp) (by decide) (Nat.le_of_ble_eq_true rfl) ⟨Nat.zero_le _, Nat.zero_le _⟩ ?_
      refine r_callS2i (pc := 50) lk_X8_94 dX8_gain_50 (s8_gainOfTurn hM0 hI hZ hp) (by decide) (Nat.le_of_ble_eq_true rfl) ⟨Nat.zero_le _, Nat.zero_le _⟩ ?_
      refine r_goto (pc := 53) 103 (by decide) dX8_gain_53 ?_
      exact ret _ _ (by rw [eg])
set_option maxRecDepth 20000 in
theorem s8_best (h : MODEL S w) (hW : WOK w) {x : Int32} : SpecP mX8_best 12 0 0 [.ref b, .int x] (kset M b S) (tMo M b (A_best x w)) := by
  have hZ := hW.z
  have hd := hZ.dims
  have hI := h.r
  have hk14 := hW.2.1.1
  have hn120 := hW.2.2.2.1
  have ha := h.a
  have hn := h.n
  have hM : kset M b S (b + 2) = some (cI 563 (S.2 1)) := kget rfl
  refine Spec_of [some (.ref b), some (.int x)] (by decide) (Nat.le_of_ble_eq_true rfl) rfl ?_
  have no : ∀ k, 0 < k → k < 10 → A_best x w = rN k w →
    G mX8_best 12 (.inl false) 0 0 (tMo M b (A_best x w)) none 0 0 16 [some (.ref b), some (.int x)] [.int (nI k), .ref b] (kset M b S)
    := by
    intro k h1 h2 e
    refine r_callV1i (pc := 16) lk_X8_167 dX8_best_16 (kget0 rfl) (s8_refused h2) (by decide) (Nat.le_of_ble_eq_true rfl) ⟨Nat.zero_le _, Nat.zero_le _⟩ ?_
    rw [decide_eq_true h1]
    refine b_if_eq (b := true) (pc := 19) 24 (by decide) dX8_best_19 (fun h9 => by cases h9) (fun _ => ?_)
    refine n_iconst_0 (pc := 22) dX8_best_22 ?_
    refine p_ireturn (pc := 23) false rfl rfl rfl dX8_best_23 (Nat.zero_le _) (Nat.zero_le _) (Or.inl rfl) ?_
    rw [e]
    exact ⟨rfl, _, h.ii0 _, rfl, rfl⟩
  have ok :
    G mX8_best 12 (.inl false) 0 0 (tMo M b (A_best x w)) none 0 0 24 [some (.ref b), some (.int x)] [] (kset M b (ii S 0 (nI 0)))
    →
    G mX8_best 12 (.inl false) 0 0 (tMo M b (A_best x w)) none 0 0 16 [some (.ref b), some (.int x)] [.int (nI 0), .ref b] (kset M b S)
    := by
    intro hb9
    refine r_callV1i (pc := 16) lk_X8_167 dX8_best_16 (kget0 rfl) (s8_refused (by decide)) (by decide) (Nat.le_of_ble_eq_true rfl) ⟨Nat.zero_le _, Nat.zero_le _⟩ ?_
    refine b_if_eq (b := false) (pc := 19) 24 (by decide) dX8_best_19 (fun _ => hb9) (fun h9 => by cases h9)
  have ea : A_best x w = if inR x 2 then rO (if nm x = 0 then bN (bestZ (wz w)) else iI (bG (bestZ (wz w)))) w else rN 1 w := rfl
  refine r_aload0 (pc := 0) dX8_best_0 ?_
  refine r_iload1 (pc := 1) dX8_best_1 ?_
  refine r_i2l (pc := 2) dX8_best_2 ?_
  refine r_lconst_0 (pc := 3) dX8_best_3 ?_
  refine r_lconst_1 (pc := 4) dX8_best_4 ?_
  refine r_callS3i (pc := 5) lk_X8_50 dX8_best_5 (s8_inAB (a := 0) (b := 1) (by decide) (by decide)) (by decide) (Nat.le_of_ble_eq_true rfl) ⟨Nat.zero_le _, Nat.zero_le _⟩ ?_
  rw [inB_R]
  refine b_if_eq (pc := 8) 15 (by decide) dX8_best_8 (fun h1 => ?_) (fun h1 => ?_)
  · refine n_iconst_1 (pc := 15) dX8_best_15 ?_
    exact no 1 (by omega) (by omega) (by rw [ea, h1]; rfl)
  · rw [h1] at ea
    have ea : A_best x w = rO (if nm x = 0 then bN (bestZ (wz w)) else iI (bG (bestZ (wz w)))) w := ea
    obtain ⟨c1, c2⟩ := inR_nm h1 (by omega)
    generalize nm x = n at *
    subst c2
    refine n_iconst_0 (pc := 11) dX8_best_11 ?_
    refine r_goto (pc := 12) 16 (by decide) dX8_best_12 ?_
    refine ok ?_
    refine r_aload0 (pc := 24) dX8_best_24 ?_
    refine r_aload0 (pc := 25) dX8_best_25 ?_
    refine r_getf (pc := 26) fl_X8_13 dX8_best_26 (kget0 rfl) rfl ?_
    refine r_callV1w (pc := 29) lk_X8_138 dX8_best_29 (kget0 rfl) (s8_find (M := M) (S := ii S 0 (nI 0)) hK1 hI hZ)  (by decide) (Nat.le_of_ble_eq_true rfl) ⟨Nat.zero_le _, Nat.zero_le _⟩ (fun M9 h9 => ?_)
    obtain ⟨v', w', hB', rfl⟩ := h9
    have h3 := hB'.1
    have h4 := hB'.2
    refine r_iload1 (pc := 32) dX8_best_32 ?_
    refine n_if_ne (pc := 33) 43 (by decide) dX8_best_33 (by omega) (fun h9 => ?_) (fun h9 => ?_)
    · refine r_aload0 (pc := 43) dX8_best_43 ?_
      refine r_getf (pc := 44) fl_X8_109 dX8_best_44 (kget0 rfl) rfl ?_
      rw [h4]
      refine p_ireturn (pc := 47) false rfl rfl rfl dX8_best_47 (Nat.zero_le _) (Nat.zero_le _) (Or.inl rfl) ?_
      rw [ea]
      exact mo (by rw [if_neg h9]; rfl) rfl ((h.ii0 (nI 0)).ks (((KS.rf _).ii (by omega) _).ii (by omega) _))
    · refine r_aload0 (pc := 36) dX8_best_36 ?_
      refine r_getf (pc := 37) fl_X8_106 dX8_best_37 (kget0 rfl) rfl ?_
      rw [h3]
      refine r_goto (pc := 40) 47 (by decide) dX8_best_40 ?_
      refine p_ireturn (pc := 47) false rfl rfl rfl dX8_best_47 (Nat.zero_le _) (Nat.zero_le _) (Or.inl rfl) ?_
      rw [ea]
      exact mo (by rw [if_pos h9]; rfl) rfl ((h.ii0 (nI 0)).ks (((KS.rf _).ii (by omega) _).ii (by omega) _))
set_option maxRecDepth 20000 in
theorem s8_ifImproved (h : MODEL S w) (hW : WOK w) {x y : Int32} : SpecP mX8_ifImproved 12 0 0 [.ref b, .int x, .int y] (kset M b S) (tMo M b (A_ifImproved x y w)) := by
  have hZ := hW.z
  have hd := hZ.dims
  have hI := h.r
  have hk14 := hW.2.1.1
  have hn120 := hW.2.2.2.1
  have ha := h.a
  have hn := h.n
  have hM : kset M b S (b + 2) = some (cI 563 (S.2 1)) := kget rfl
  refine Spec_of [some (.ref b), some (.int x), some (.int y), none] (by decide) (Nat.le_of_ble_eq_true rfl) rfl ?_
  have no : ∀ k, 0 < k → k < 10 → A_ifImproved x y w = rN k w →
    G mX8_ifImproved 12 (.inl false) 0 0 (tMo M b (A_ifImproved x y w)) none 0 0 28 [some (.ref b), some (.int x), some (.int y), none] [.int (nI k), .ref b] (kset M b S)
    := by
    intro k h1 h2 e
    refine r_callV1i (pc := 28) lk_X8_167 dX8_ifImproved_28 (kget0 rfl) (s8_refused h2) (by decide) (Nat.le_of_ble_eq_true rfl) ⟨Nat.zero_le _, Nat.zero_le _⟩ ?_
    rw [decide_eq_true h1]
    refine b_if_eq (b := true) (pc := 31) 36 (by decide) dX8_ifImproved_31 (fun h9 => by cases h9) (fun _ => ?_)
    refine n_iconst_0 (pc := 34) dX8_ifImproved_34 ?_
    refine p_ireturn (pc := 35) false rfl rfl rfl dX8_ifImproved_35 (Nat.zero_le _) (Nat.zero_le _) (Or.inl rfl) ?_
    rw [e]
    exact ⟨rfl, _, h.ii0 _, rfl, rfl⟩
  have ok :
    G mX8_ifImproved 12 (.inl false) 0 0 (tMo M b (A_ifImproved x y w)) none 0 0 36 [some (.ref b), some (.int x), some (.int y), none] [] (kset M b (ii S 0 (nI 0)))
    →
    G mX8_ifImproved 12 (.inl false) 0 0 (tMo M b (A_ifImproved x y w)) none 0 0 28 [some (.ref b), some (.int x), some (.int y), none] [.int (nI 0), .ref b] (kset M b S)
    := by
    intro hb9
    refine r_callV1i (pc := 28) lk_X8_167 dX8_ifImproved_28 (kget0 rfl) (s8_refused (by decide)) (by decide) (Nat.le_of_ble_eq_true rfl) ⟨Nat.zero_le _, Nat.zero_le _⟩ ?_
    refine b_if_eq (b := false) (pc := 31) 36 (by decide) dX8_ifImproved_31 (fun _ => hb9) (fun h9 => by cases h9)
  have ea : A_ifImproved x y w = if inB x 1 20 && inR y 2 then rO (if nm y = 0 then iI (erAll (wz w) - erAll (impZ (nm x) (wz w))) else nI (impN (nm x) (wz w))) w else rN 1 w := rfl
  refine r_aload0 (pc := 0) dX8_ifImproved_0 ?_
  refine r_iload1 (pc := 1) dX8_ifImproved_1 ?_
  refine r_i2l (pc := 2) dX8_ifImproved_2 ?_
  refine r_lconst_1 (pc := 3) dX8_ifImproved_3 ?_
  refine r_ldc2 (v := (20)) (pc := 4) (tG 1365 (by decide +kernel) (by decide +kernel)) dX8_ifImproved_4 ?_
  refine r_callS3i (pc := 7) lk_X8_50 dX8_ifImproved_7 (s8_inAB (a := 1) (b := 20) (by decide) (by decide)) (by decide) (Nat.le_of_ble_eq_true rfl) ⟨Nat.zero_le _, Nat.zero_le _⟩ ?_
  refine b_if_eq (pc := 10) 27 (by decide) dX8_ifImproved_10 (fun h1 => ?_) (fun h1 => ?_)
  · refine n_iconst_1 (pc := 27) dX8_ifImproved_27 ?_
    exact no 1 (by omega) (by omega) (by rw [ea, h1]; rfl)
  · refine r_iload2 (pc := 13) dX8_ifImproved_13 ?_
    refine r_i2l (pc := 14) dX8_ifImproved_14 ?_
    refine r_lconst_0 (pc := 15) dX8_ifImproved_15 ?_
    refine r_lconst_1 (pc := 16) dX8_ifImproved_16 ?_
    refine r_callS3i (pc := 17) lk_X8_50 dX8_ifImproved_17 (s8_inAB (a := 0) (b := 1) (by decide) (by decide)) (by decide) (Nat.le_of_ble_eq_true rfl) ⟨Nat.zero_le _, Nat.zero_le _⟩ ?_
    rw [inB_R]
    refine b_if_eq (pc := 20) 27 (by decide) dX8_ifImproved_20 (fun h2 => ?_) (fun h2 => ?_)
    · refine n_iconst_1 (pc := 27) dX8_ifImproved_27 ?_
      exact no 1 (by omega) (by omega) (by rw [ea, h1, h2]; rfl)
    · rw [h1, h2] at ea
      have ea : A_ifImproved x y w = rO (if nm y = 0 then iI (erAll (wz w) - erAll (impZ (nm x) (wz w))) else nI (impN (nm x) (wz w))) w := ea
      obtain ⟨c1, c2, c3⟩ := inB_ex h1 (by omega)
      obtain ⟨e1, e2⟩ := inR_nm h2 (by omega)
      generalize nm x = n at *
      generalize nm y = j at *
      subst c3 e2
      refine n_iconst_0 (pc := 23) dX8_ifImproved_23 ?_
      refine r_goto (pc := 24) 28 (by decide) dX8_ifImproved_24 ?_
      refine ok ?_
      refine r_aload0 (pc := 36) dX8_ifImproved_36 ?_
      refine r_getf (pc := 37) fl_X8_13 dX8_ifImproved_37 (kget0 rfl) rfl ?_
      refine n_iconst_0 (pc := 40) dX8_ifImproved_40 ?_
      refine r_aload0 (pc := 41) dX8_ifImproved_41 ?_
      refine r_getf (pc := 42) fl_X8_16 dX8_ifImproved_42 (kget0 rfl) rfl ?_
      refine n_iconst_0 (pc := 45) dX8_ifImproved_45 ?_
      refine r_callS4v (pc := 46) lk_X8_234 dX8_ifImproved_46 cp_12 (by decide) (Nat.le_of_ble_eq_true rfl) ⟨Nat.zero_le _, Nat.zero_le _⟩ ?_
      have hI2 : InvR ((ia (ii S 0 (nI 0)) 2 (cpR (S.2 1) (S.2 2) 0 0 563)).2 2) (wz w) := InvR.cg hI hZ (fun j hj => by
        have e := cpR_in (f := S.2 1) (g := S.2 2) (i0 := 0) (i1 := 0) (n := 563) hj
        rw [Nat.zero_add] at e
        exact e)
      refine r_aload0 (pc := 49) dX8_ifImproved_49 ?_
      refine r_aload0 (pc := 50) dX8_ifImproved_50 ?_
      refine r_getf (pc := 51) fl_X8_16 dX8_ifImproved_51 (kget0 rfl) rfl ?_
      refine r_iload1 (pc := 54) dX8_ifImproved_54 ?_
      refine r_callV2x (pc := 55) lk_X8_225 dX8_ifImproved_55 (kget0 rfl) (s8_improveOn (M := M) (b := b) (S := ia (ii S 0 (nI 0)) 2 (cpR (S.2 1) (S.2 2) 0 0 563)) hK2 hI2 hZ (m := n) (by omega))  (by decide) (Nat.le_of_ble_eq_true rfl) ⟨Nat.zero_le _, Nat.zero_le _⟩ (fun M9 h9 => ?_)
      obtain ⟨v', w', f', hI3, rfl⟩ := h9
      refine r_istore3 (pc := 58) dX8_ifImproved_58 rfl ?_
      have KS9 : KS (ii S 0 (nI 0)) (imS (ia (ii S 0 (nI 0)) 2 (cpR (S.2 1) (S.2 2) 0 0 563)) 2 v' w' (nI (impN n (wz w))) f') := ((((KS.rf _).i2 _).ii (i := 3) (by omega) v').ii (i := 4) (by omega) w' |>.ii (i := 5) (by omega) (nI (impN n (wz w)))).i2 f'
      have h5 : (imS (ia (ii S 0 (nI 0)) 2 (cpR (S.2 1) (S.2 2) 0 0 563)) 2 v' w' (nI (impN n (wz w))) f').1 5 = nI (impN n (wz w)) := rfl
      refine r_iload2 (pc := 59) dX8_ifImproved_59 ?_
      refine n_if_ne (pc := 60) 67 (by decide) dX8_ifImproved_60 (by omega) (fun h9 => ?_) (fun h9 => ?_)
      · refine r_aload0 (pc := 67) dX8_ifImproved_67 ?_
        refine r_getf (pc := 68) fl_X8_135 dX8_ifImproved_68 (kget0 rfl) rfl ?_
        rw [h5]
        refine p_ireturn (pc := 71) false rfl rfl rfl dX8_ifImproved_71 (Nat.zero_le _) (Nat.zero_le _) (Or.inl rfl) ?_
        rw [ea]
        exact mo (by rw [if_neg h9]; rfl) rfl ((h.ii0 (nI 0)).ks KS9)
      · refine r_iload3 (pc := 63) dX8_ifImproved_63 ?_
        refine r_goto (pc := 64) 71 (by decide) dX8_ifImproved_64 ?_
        refine p_ireturn (pc := 71) false rfl rfl rfl dX8_ifImproved_71 (Nat.zero_le _) (Nat.zero_le _) (Or.inl rfl) ?_
        rw [ea]
        exact mo (by rw [if_pos h9]; rfl) rfl ((h.ii0 (nI 0)).ks KS9)
set_option maxRecDepth 20000 in
theorem s8_least (h : MODEL S w) (hW : WOK w) : SpecP mX8_least 12 0 0 [.ref b] (kset M b S) (tMo M b (A_least w)) := by
  have hZ := hW.z
  have hd := hZ.dims
  have hI := h.r
  have hk14 := hW.2.1.1
  have hn120 := hW.2.2.2.1
  have ha := h.a
  have hn := h.n
  have hM : kset M b S (b + 2) = some (cI 563 (S.2 1)) := kget rfl
  refine Spec_of [some (.ref b), none, none, none, none] (by decide) (Nat.le_of_ble_eq_true rfl) rfl ?_
  have hnz := hZ.n
  refine r_aload0 (pc := 0) dX8_least_0 ?_
  refine n_iconst_0 (pc := 1) dX8_least_1 ?_
  refine r_putfI (pc := 2) fl_X8_36 dX8_least_2 (kget0 rfl) (Nat.le_of_ble_eq_true rfl) ?_
  refine G_M bii_X8_0 ?_
  refine n_iconst_0 (pc := 5) dX8_least_5 ?_
  refine r_istore1 (pc := 6) dX8_least_6 rfl ?_
  refine n_iconst_0 (pc := 7) dX8_least_7 ?_
  refine r_istore2 (pc := 8) dX8_least_8 rfl ?_
  have hM0 : kset M b (ii S 0 (nI 0)) (b + 2) = some (cI 563 (S.2 1)) := kget rfl
  refine up_to (N := zq (wz w)) (k := 0) (fun s => ∀ a3 a4, nc a3 = true →
    G mX8_least 12 (.inl false) 0 0 (tMo M b (A_least w)) none 0 0 9 [some (.ref b), some (.int (iI (zS (fun s => lsq (wz w) s (zn (wz w))) s))), some (.int (nI s)), a3, a4] [] (kset M b (ii S 0 (nI 0)))
    ) (fun a3 a4 n3 => ?_) (fun s hs ih a3 a4 n3 => ?_) (Nat.zero_le _) none none rfl
  · refine r_iload2 (pc := 9) dX8_least_9 ?_
    refine r_aload0 (pc := 10) dX8_least_10 ?_
    refine r_getf (pc := 11) fl_X8_13 dX8_least_11 (kget0 rfl) rfl ?_
    refine r_callS1i (pc := 14) lk_X8_47 dX8_least_14 (s8_squares hM0 hI) (by decide) (Nat.le_of_ble_eq_true rfl) ⟨Nat.zero_le _, Nat.zero_le _⟩ ?_
    refine n_icmp_ge (pc := 17) 89 (by decide) dX8_least_17 (by omega) (by omega) (fun hc17 => ?_) (fun hc17 => absurd hc17 (by omega))
    refine r_iload1 (pc := 89) dX8_least_89 ?_
    exact p_ireturn (pc := 90) false rfl rfl rfl dX8_least_90 (Nat.zero_le _) (Nat.zero_le _) (Or.inl rfl) (mo rfl rfl (h.ii0 (nI 0)))
  · have hg := hZ.g hs
    refine r_iload2 (pc := 9) dX8_least_9 ?_
    refine r_aload0 (pc := 10) dX8_least_10 ?_
    refine r_getf (pc := 11) fl_X8_13 dX8_least_11 (kget0 rfl) rfl ?_
    refine r_callS1i (pc := 14) lk_X8_47 dX8_least_14 (s8_squares hM0 hI) (by decide) (Nat.le_of_ble_eq_true rfl) ⟨Nat.zero_le _, Nat.zero_le _⟩ ?_
    refine n_icmp_ge (pc := 17) 89 (by decide) dX8_least_17 (by omega) (by omega) (fun hc17 => absurd hc17 (by omega)) (fun hc17 => ?_)
    refine r_aload0 (pc := 20) dX8_least_20 ?_
    refine r_getf (pc := 21) fl_X8_13 dX8_least_21 (kget0 rfl) rfl ?_
    refine r_iload2 (pc := 24) dX8_least_24 ?_
    refine n_iconst_0 (pc := 25) dX8_least_25 ?_
    refine r_callS3i (pc := 26) lk_X8_67 dX8_least_26 (s8_errorOf hM0 hI hZ hs (by omega)) (by decide) (Nat.le_of_ble_eq_true rfl) ⟨Nat.zero_le _, Nat.zero_le _⟩ ?_
    refine r_istore3 (pc := 29) dX8_least_29 rfl ?_
    refine n_iconst_1 (pc := 30) dX8_least_30 ?_
    refine r_istore4 (pc := 31) dX8_least_31 rfl ?_
    refine up_to (N := zn (wz w)) (k := 0) (fun k => G mX8_least 12 (.inl false) 0 0 (tMo M b (A_least w)) none 0 0 33 [some (.ref b), some (.int (iI (zS (fun s => lsq (wz w) s (zn (wz w))) s))), some (.int (nI s)), some (.int (iI (lsq (wz w) s k))), some (.int (nI (k + 1)))] [] (kset M b (ii S 0 (nI 0)))) ?_ (fun k hk ih => ?_) (Nat.zero_le _)
    · refine r_iload4 (pc := 33) dX8_least_33 ?_
      refine r_aload0 (pc := 35) dX8_least_35 ?_
      refine r_getf (pc := 36) fl_X8_13 dX8_least_36 (kget0 rfl) rfl ?_
      refine n_iconst_0 (pc := 39) dX8_least_39 ?_
      refine n_iald (pc := 40) dX8_least_40 hM0 (by decide) (by decide) hI.n ?_
      refine n_icmp_gt (pc := 41) 79 (by decide) dX8_least_41 (by omega) (by omega) (fun hc41 => ?_) (fun hc41 => absurd hc41 (by omega))
      refine r_iload1 (pc := 79) dX8_least_79 ?_
      refine r_iload3 (pc := 80) dX8_least_80 ?_
      first | refine n_iadd (pc := 81) dX8_least_81 ?_ | refine z_iadd (pc := 81) dX8_least_81 ?_ | refine r_iadd (pc := 81) dX8_least_81 ?_
      refine r_istore1 (pc := 82) dX8_least_82 rfl ?_
      refine n_iinc2 (pc := 83) dX8_least_83 rfl ?_
      refine r_goto (pc := 86) 9 (by decide) dX8_least_86 ?_
      exact ih _ _ rfl
    · have b1 := lsq_le hZ hs k (by omega)
      have b2 := sqd_le hg (sh_le hnz.1 (show k + 1 ≤ zn (wz w) by omega))
      have e : lsq (wz w) s (k + 1) = if lsq (wz w) s k < sqd (zG (wz w) s) (sh (zn (wz w)) (k + 1)) then lsq (wz w) s k else sqd (zG (wz w) s) (sh (zn (wz w)) (k + 1)) := rfl
      refine r_iload4 (pc := 33) dX8_least_33 ?_
      refine r_aload0 (pc := 35) dX8_least_35 ?_
      refine r_getf (pc := 36) fl_X8_13 dX8_least_36 (kget0 rfl) rfl ?_
      refine n_iconst_0 (pc := 39) dX8_least_39 ?_
      refine n_iald (pc := 40) dX8_least_40 hM0 (by decide) (by decide) hI.n ?_
      refine n_icmp_gt (pc := 41) 79 (by decide) dX8_least_41 (by omega) (by omega) (fun hc41 => absurd hc41 (by omega)) (fun hc41 => ?_)
      refine r_aload0 (pc := 44) dX8_least_44 ?_
      refine r_getf (pc := 45) fl_X8_13 dX8_least_45 (kget0 rfl) rfl ?_
      refine r_iload2 (pc := 48) dX8_least_48 ?_
      refine r_iload4 (pc := 49) dX8_least_49 ?_
      refine r_callS3i (pc := 51) lk_X8_67 dX8_least_51 (s8_errorOf hM0 hI hZ hs (by omega)) (by decide) (Nat.le_of_ble_eq_true rfl) ⟨Nat.zero_le _, Nat.zero_le _⟩ ?_
      refine r_iload3 (pc := 54) dX8_least_54 ?_
      refine z_icmp_ge (pc := 55) 71 (by decide) dX8_least_55 (by omega) (by omega) (by omega) (by omega) (fun h9 => ?_) (fun h9 => ?_)
      · have e2 : lsq (wz w) s (k + 1) = lsq (wz w) s k := by rw [e]; split <;> omega
        refine r_iload3 (pc := 71) dX8_least_71 ?_
        refine r_istore3 (pc := 72) dX8_least_72 rfl ?_
        refine n_iinc4 (pc := 73) dX8_least_73 rfl ?_
        refine r_goto (pc := 76) 33 (by decide) dX8_least_76 ?_
        rw [← e2]
        exact ih
      · rw [if_neg (by omega)] at e
        refine r_aload0 (pc := 58) dX8_least_58 ?_
        refine r_getf (pc := 59) fl_X8_13 dX8_least_59 (kget0 rfl) rfl ?_
        refine r_iload2 (pc := 62) dX8_least_62 ?_
        refine r_iload4 (pc := 63) dX8_least_63 ?_
        refine r_callS3i (pc := 65) lk_X8_67 dX8_least_65 (s8_errorOf hM0 hI hZ hs (by omega)) (by decide) (Nat.le_of_ble_eq_true rfl) ⟨Nat.zero_le _, Nat.zero_le _⟩ ?_
        refine r_goto (pc := 68) 72 (by decide) dX8_least_68 ?_
        refine r_istore3 (pc := 72) dX8_least_72 rfl ?_
        refine n_iinc4 (pc := 73) dX8_least_73 rfl ?_
        refine r_goto (pc := 76) 33 (by decide) dX8_least_76 ?_
        rw [← e]
        exact ih
set_option maxRecDepth 20000 in
theorem s8_worst (h : MODEL S w) (hW : WOK w) {x : Int32} : SpecP mX8_worst 12 0 0 [.ref b, .int x] (kset M b S) (tMo M b (A_worst x w)) := by
  have hZ := hW.z
  have hd := hZ.dims
  have hI := h.r
  have hk14 := hW.2.1.1
  have hn120 := hW.2.2.2.1
  have ha := h.a
  have hn := h.n
  have hM : kset M b S (b + 2) = some (cI 563 (S.2 1)) := kget rfl
  refine Spec_of [some (.ref b), some (.int x), none, none, none, none, none] (by decide) (Nat.le_of_ble_eq_true rfl) rfl ?_
  have no : ∀ k, 0 < k → k < 10 → A_worst x w = rN k w →
    G mX8_worst 12 (.inl false) 0 0 (tMo M b (A_worst x w)) none 0 0 17 [some (.ref b), some (.int x), none, none, none, none, none] [.int (nI k), .ref b] (kset M b S)
    := by
    intro k h1 h2 e
    refine r_callV1i (pc := 17) lk_X8_167 dX8_worst_17 (kget0 rfl) (s8_refused h2) (by decide) (Nat.le_of_ble_eq_true rfl) ⟨Nat.zero_le _, Nat.zero_le _⟩ ?_
    rw [decide_eq_true h1]
    refine b_if_eq (b := true) (pc := 20) 25 (by decide) dX8_worst_20 (fun h9 => by cases h9) (fun _ => ?_)
    refine n_iconst_0 (pc := 23) dX8_worst_23 ?_
    refine p_ireturn (pc := 24) false rfl rfl rfl dX8_worst_24 (Nat.zero_le _) (Nat.zero_le _) (Or.inl rfl) ?_
    rw [e]
    exact ⟨rfl, _, h.ii0 _, rfl, rfl⟩
  have ok :
    G mX8_worst 12 (.inl false) 0 0 (tMo M b (A_worst x w)) none 0 0 25 [some (.ref b), some (.int x), none, none, none, none, none] [] (kset M b (ii S 0 (nI 0)))
    →
    G mX8_worst 12 (.inl false) 0 0 (tMo M b (A_worst x w)) none 0 0 17 [some (.ref b), some (.int x), none, none, none, none, none] [.int (nI 0), .ref b] (kset M b S)
    := by
    intro hb9
    refine r_callV1i (pc := 17) lk_X8_167 dX8_worst_17 (kget0 rfl) (s8_refused (by decide)) (by decide) (Nat.le_of_ble_eq_true rfl) ⟨Nat.zero_le _, Nat.zero_le _⟩ ?_
    refine b_if_eq (b := false) (pc := 20) 25 (by decide) dX8_worst_20 (fun _ => hb9) (fun h9 => by cases h9)
  have ea : A_worst x w = if inR x (zt (wz w)) then rO (oI (worZ (wz w) (nm x))) w else rN 1 w := rfl
  refine r_aload0 (pc := 0) dX8_worst_0 ?_
  refine r_aload0 (pc := 1) dX8_worst_1 ?_
  refine r_getf (pc := 2) fl_X8_13 dX8_worst_2 (kget0 rfl) rfl ?_
  refine r_iload1 (pc := 5) dX8_worst_5 ?_
  refine r_callS2i (pc := 6) lk_X8_152 dX8_worst_6 (s8_isPlace hM hI hZ) (by decide) (Nat.le_of_ble_eq_true rfl) ⟨Nat.zero_le _, Nat.zero_le _⟩ ?_
  refine b_if_eq (pc := 9) 16 (by decide) dX8_worst_9 (fun h1 => ?_) (fun h1 => ?_)
  · refine n_iconst_1 (pc := 16) dX8_worst_16 ?_
    exact no 1 (by omega) (by omega) (by rw [ea, h1]; rfl)
  · rw [h1] at ea
    have ea : A_worst x w = rO (oI (worZ (wz w) (nm x))) w := ea
    obtain ⟨c1, c2⟩ := inR_nm h1 (by omega)
    generalize nm x = r at *
    subst c2
    refine n_iconst_0 (pc := 12) dX8_worst_12 ?_
    refine r_goto (pc := 13) 17 (by decide) dX8_worst_13 ?_
    refine ok ?_
    have hM0 : kset M b (ii S 0 (nI 0)) (b + 2) = some (cI 563 (S.2 1)) := kget rfl
    refine n_iconst_0 (pc := 25) dX8_worst_25 ?_
    refine r_istore2 (pc := 26) dX8_worst_26 rfl ?_
    refine up_to (N := zt (wz w)) (k := 0) (fun k => ∀ a3 a4 a5 a6, nc a3 = true → nc a4 = true → nc a5 = true → (∀ j, j < k → rkZ (wz w) j (zt (wz w)) ≠ r) →
      G mX8_worst 12 (.inl false) 0 0 (tMo M b (A_worst (nI r) w)) none 0 0 27 [some (.ref b), some (.int (nI r)), some (.int (nI k)), a3, a4, a5, a6] [] (kset M b (ii S 0 (nI 0)))
      ) (fun a3 a4 a5 a6 n3 n4 n5 hno => ?_) (fun k hk ih a3 a4 a5 a6 n3 n4 n5 hno => ?_) (Nat.zero_le _) none none none none rfl rfl rfl (fun j hj => absurd hj (Nat.not_lt_zero _))
    · refine r_iload2 (pc := 27) dX8_worst_27 ?_
      refine r_aload0 (pc := 28) dX8_worst_28 ?_
      refine r_getf (pc := 29) fl_X8_13 dX8_worst_29 (kget0 rfl) rfl ?_
      refine r_callS1i (pc := 32) lk_X8_54 dX8_worst_32 (s8_tiles hM0 hI hZ) (by decide) (Nat.le_of_ble_eq_true rfl) ⟨Nat.zero_le _, Nat.zero_le _⟩ ?_
      refine n_icmp_ge (pc := 35) 138 (by decide) dX8_worst_35 (by omega) (by omega) (fun hc35 => ?_) (fun hc35 => absurd hc35 (by omega))
      refine r_iconst_m1 (pc := 138) dX8_worst_138 ?_
      refine p_ireturn (pc := 139) false rfl rfl rfl dX8_worst_139 (Nat.zero_le _) (Nat.zero_le _) (Or.inl rfl) ?_
      rw [ea, show worZ (wz w) r = none from find_no (fun j hj => by simp [hno j hj])]
      exact mo rfl rfl (h.ii0 (nI 0))
    · have bk := hZ.erB hk
      refine G_fgt 6 ?_
      refine r_iload2 (pc := 27) dX8_worst_27 ?_
      refine r_aload0 (pc := 28) dX8_worst_28 ?_
      refine r_getf (pc := 29) fl_X8_13 dX8_worst_29 (kget0 rfl) rfl ?_
      refine r_callS1i (pc := 32) lk_X8_54 dX8_worst_32 (s8_tiles hM0 hI hZ) (by decide) (Nat.le_of_ble_eq_true rfl) ⟨Nat.zero_le _, Nat.zero_le _⟩ ?_
      refine n_icmp_ge (pc := 35) 138 (by decide) dX8_worst_35 (by omega) (by omega) (fun hc35 => absurd hc35 (by omega)) (fun hc35 => ?_)
      refine r_aload0 (pc := 38) dX8_worst_38 ?_
      refine r_getf (pc := 39) fl_X8_13 dX8_worst_39 (kget0 rfl) rfl ?_
      refine r_aload0 (pc := 42) dX8_worst_42 ?_
      refine r_getf (pc := 43) fl_X8_13 dX8_worst_43 (kget0 rfl) rfl ?_
      refine r_iload2 (pc := 46) dX8_worst_46 ?_
      refine r_callS2i (pc := 47) lk_X8_123 dX8_worst_47 (s8_firstOf hM0 hI hZ hk) (by decide) (Nat.le_of_ble_eq_true rfl) ⟨Nat.zero_le _, Nat.zero_le _⟩ ?_
      refine r_callS2i (pc := 50) lk_X8_85 dX8_worst_50 (s8_placeError hM0 hI hZ hk) (by decide) (Nat.le_of_ble_eq_true rfl) ⟨Nat.zero_le _, Nat.zero_le _⟩ ?_
      refine r_istore3 (pc := 53) dX8_worst_53 rfl ?_
      refine n_iconst_0 (pc := 54) dX8_worst_54 ?_
      refine r_istore4 (pc := 55) dX8_worst_55 rfl ?_
      refine n_iconst_0 (pc := 57) dX8_worst_57 ?_
      refine r_istore5 (pc := 58) dX8_worst_58 rfl ?_
      refine up_to (N := zt (wz w)) (k := 0) (fun i => ∀ a6,
        G mX8_worst 12 (.inl false) 0 0 (tMo M b (A_worst (nI r) w)) none 0 0 60 [some (.ref b), some (.int (nI r)), some (.int (nI k)), some (.int (iI (er (wz w) k))), some (.int (nI (rkZ (wz w) k i))), some (.int (nI i)), a6] [] (kset M b (ii S 0 (nI 0)))
        ) (fun a6 => ?_) (fun i hi ih2 a6 => ?_) (Nat.zero_le _) none
      · have hrk : rkZ (wz w) k (zt (wz w)) ≤ zt (wz w) := zN_le _ _
        refine r_iload5 (pc := 60) dX8_worst_60 ?_
        refine r_aload0 (pc := 62) dX8_worst_62 ?_
        refine r_getf (pc := 63) fl_X8_13 dX8_worst_63 (kget0 rfl) rfl ?_
        refine r_callS1i (pc := 66) lk_X8_54 dX8_worst_66 (s8_tiles hM0 hI hZ) (by decide) (Nat.le_of_ble_eq_true rfl) ⟨Nat.zero_le _, Nat.zero_le _⟩ ?_
        refine n_icmp_ge (pc := 69) 124 (by decide) dX8_worst_69 (by omega) (by omega) (fun hc69 => ?_) (fun hc69 => absurd hc69 (by omega))
        refine r_iload4 (pc := 124) dX8_worst_124 ?_
        refine r_iload1 (pc := 126) dX8_worst_126 ?_
        refine n_icmp_ne (pc := 127) 132 (by decide) dX8_worst_127 (by omega) (by omega) (fun h9 => ?_) (fun h9 => ?_)
        · refine n_iinc2 (pc := 132) dX8_worst_132 rfl ?_
          refine r_goto (pc := 135) 27 (by decide) dX8_worst_135 ?_
          exact ih _ _ _ _ rfl rfl rfl (fun j hj => by rcases Nat.lt_succ_iff_lt_or_eq.mp hj with h8 | h8; exact hno j h8; rw [h8]; exact h9)
        · refine r_iload2 (pc := 130) dX8_worst_130 ?_
          refine p_ireturn (pc := 131) false rfl rfl rfl dX8_worst_131 (Nat.zero_le _) (Nat.zero_le _) (Or.inl rfl) ?_
          rw [ea, show worZ (wz w) r = some k from find_first hk (by simp [h9]) (fun j hj => by simp [hno j hj])]
          exact mo rfl rfl (h.ii0 (nI 0))
      · have bi := hZ.erB hi
        have e : rkZ (wz w) k (i + 1) = rkZ (wz w) k i + (if decide (er (wz w) k < er (wz w) i) || (decide (er (wz w) i = er (wz w) k) && decide (i < k)) then 1 else 0) := rfl
        refine r_iload5 (pc := 60) dX8_worst_60 ?_
        refine r_aload0 (pc := 62) dX8_worst_62 ?_
        refine r_getf (pc := 63) fl_X8_13 dX8_worst_63 (kget0 rfl) rfl ?_
        refine r_callS1i (pc := 66) lk_X8_54 dX8_worst_66 (s8_tiles hM0 hI hZ) (by decide) (Nat.le_of_ble_eq_true rfl) ⟨Nat.zero_le _, Nat.zero_le _⟩ ?_
        refine n_icmp_ge (pc := 69) 124 (by decide) dX8_worst_69 (by omega) (by omega) (fun hc69 => absurd hc69 (by omega)) (fun hc69 => ?_)
        refine r_aload0 (pc := 72) dX8_worst_72 ?_
        refine r_getf (pc := 73) fl_X8_13 dX8_worst_73 (kget0 rfl) rfl ?_
        refine r_aload0 (pc := 76) dX8_worst_76 ?_
        refine r_getf (pc := 77) fl_X8_13 dX8_worst_77 (kget0 rfl) rfl ?_
        refine r_iload5 (pc := 80) dX8_worst_80 ?_
        refine r_callS2i (pc := 82) lk_X8_123 dX8_worst_82 (s8_firstOf hM0 hI hZ hi) (by decide) (Nat.le_of_ble_eq_true rfl) ⟨Nat.zero_le _, Nat.zero_le _⟩ ?_
        refine r_callS2i (pc := 85) lk_X8_85 dX8_worst_85 (s8_placeError hM0 hI hZ hi) (by decide) (Nat.le_of_ble_eq_true rfl) ⟨Nat.zero_le _, Nat.zero_le _⟩ ?_
        refine r_istore6 (pc := 88) dX8_worst_88 rfl ?_
        refine r_iload4 (pc := 90) dX8_worst_90 ?_
        refine r_iload6 (pc := 92) dX8_worst_92 ?_
        refine r_iload3 (pc := 94) dX8_worst_94 ?_
        refine z_icmp_gt (pc := 95) 110 (by decide) dX8_worst_95 (by omega) (by omega) (by omega) (by omega) (fun h2 => ?_) (fun h2 => ?_)
        · rw [if_pos (by simp [h2])] at e
          refine n_iconst_1 (pc := 110) dX8_worst_110 ?_
          refine r_goto (pc := 111) 115 (by decide) dX8_worst_111 ?_
          first | refine n_iadd (pc := 115) dX8_worst_115 ?_ | refine z_iadd (pc := 115) dX8_worst_115 ?_ | refine r_iadd (pc := 115) dX8_worst_115 ?_
          refine r_istore4 (pc := 116) dX8_worst_116 rfl ?_
          refine n_iinc5 (pc := 118) dX8_worst_118 rfl ?_
          refine r_goto (pc := 121) 60 (by decide) dX8_worst_121 ?_
          rw [e] at ih2; exact ih2 _
        · refine r_iload6 (pc := 98) dX8_worst_98 ?_
          refine r_iload3 (pc := 100) dX8_worst_100 ?_
          refine z_icmp_ne (pc := 101) 114 (by decide) dX8_worst_101 (by omega) (by omega) (by omega) (by omega) (fun h3 => ?_) (fun h3 => ?_)
          · rw [if_neg (by simp; constructor; omega; intro h4; exact absurd h4 h3)] at e
            refine n_iconst_0 (pc := 114) dX8_worst_114 ?_
            first | refine n_iadd (pc := 115) dX8_worst_115 ?_ | refine z_iadd (pc := 115) dX8_worst_115 ?_ | refine r_iadd (pc := 115) dX8_worst_115 ?_
            refine r_istore4 (pc := 116) dX8_worst_116 rfl ?_
            refine n_iinc5 (pc := 118) dX8_worst_118 rfl ?_
            refine r_goto (pc := 121) 60 (by decide) dX8_worst_121 ?_
            rw [e] at ih2; exact ih2 _
          · refine r_iload5 (pc := 104) dX8_worst_104 ?_
            refine r_iload2 (pc := 106) dX8_worst_106 ?_
            refine n_icmp_ge (pc := 107) 114 (by decide) dX8_worst_107 (by omega) (by omega) (fun h4 => ?_) (fun h4 => ?_)
            · rw [if_neg (by simp; constructor; omega; intro _; omega)] at e
              refine n_iconst_0 (pc := 114) dX8_worst_114 ?_
              first | refine n_iadd (pc := 115) dX8_worst_115 ?_ | refine z_iadd (pc := 115) dX8_worst_115 ?_ | refine r_iadd (pc := 115) dX8_worst_115 ?_
              refine r_istore4 (pc := 116) dX8_worst_116 rfl ?_
              refine n_iinc5 (pc := 118) dX8_worst_118 rfl ?_
              refine r_goto (pc := 121) 60 (by decide) dX8_worst_121 ?_
              rw [e] at ih2; exact ih2 _
            · rw [if_pos (by simp [h3, h4])] at e
              refine n_iconst_1 (pc := 110) dX8_worst_110 ?_
              refine r_goto (pc := 111) 115 (by decide) dX8_worst_111 ?_
              first | refine n_iadd (pc := 115) dX8_worst_115 ?_ | refine z_iadd (pc := 115) dX8_worst_115 ?_ | refine r_iadd (pc := 115) dX8_worst_115 ?_
              refine r_istore4 (pc := 116) dX8_worst_116 rfl ?_
              refine n_iinc5 (pc := 118) dX8_worst_118 rfl ?_
              refine r_goto (pc := 121) 60 (by decide) dX8_worst_121 ?_
              rw [e] at ih2; exact ih2 _
set_option maxRecDepth 20000 in
theorem s8_fits (h : MODEL S w) (hW : WOK w) {x : Int32} : SpecP mX8_fits 12 0 0 [.ref b, .int x] (kset M b S) (tMo M b (A_fits x w)) := by
  have hZ := hW.z
  have hd := hZ.dims
  have hI := h.r
  have hk14 := hW.2.1.1
  have hn120 := hW.2.2.2.1
  have ha := h.a
  have hn := h.n
  have hM : kset M b S (b + 2) = some (cI 563 (S.2 1)) := kget rfl
  refine Spec_of [some (.ref b), some (.int x), none, none, none, none, none, none] (by decide) (Nat.le_of_ble_eq_true rfl) rfl ?_
  have no : ∀ k, 0 < k → k < 10 → A_fits x w = rN k w →
    G mX8_fits 12 (.inl false) 0 0 (tMo M b (A_fits x w)) none 0 0 17 [some (.ref b), some (.int x), none, none, none, none, none, none] [.int (nI k), .ref b] (kset M b S)
    := by
    intro k h1 h2 e
    refine r_callV1i (pc := 17) lk_X8_167 dX8_fits_17 (kget0 rfl) (s8_refused h2) (by decide) (Nat.le_of_ble_eq_true rfl) ⟨Nat.zero_le _, Nat.zero_le _⟩ ?_
    rw [decide_eq_true h1]
    refine b_if_eq (b := true) (pc := 20) 25 (by decide) dX8_fits_20 (fun h9 => by cases h9) (fun _ => ?_)
    refine n_iconst_0 (pc := 23) dX8_fits_23 ?_
    refine p_ireturn (pc := 24) false rfl rfl rfl dX8_fits_24 (Nat.zero_le _) (Nat.zero_le _) (Or.inl rfl) ?_
    rw [e]
    exact ⟨rfl, _, h.ii0 _, rfl, rfl⟩
  have ok :
    G mX8_fits 12 (.inl false) 0 0 (tMo M b (A_fits x w)) none 0 0 25 [some (.ref b), some (.int x), none, none, none, none, none, none] [] (kset M b (ii S 0 (nI 0)))
    →
    G mX8_fits 12 (.inl false) 0 0 (tMo M b (A_fits x w)) none 0 0 17 [some (.ref b), some (.int x), none, none, none, none, none, none] [.int (nI 0), .ref b] (kset M b S)
    := by
    intro hb9
    refine r_callV1i (pc := 17) lk_X8_167 dX8_fits_17 (kget0 rfl) (s8_refused (by decide)) (by decide) (Nat.le_of_ble_eq_true rfl) ⟨Nat.zero_le _, Nat.zero_le _⟩ ?_
    refine b_if_eq (b := false) (pc := 20) 25 (by decide) dX8_fits_20 (fun _ => hb9) (fun h9 => by cases h9)
  have ea : A_fits x w = if inR x (zt (wz w)) then rO (nI (fitZ (wz w) (nm x))) w else rN 1 w := rfl
  refine r_aload0 (pc := 0) dX8_fits_0 ?_
  refine r_aload0 (pc := 1) dX8_fits_1 ?_
  refine r_getf (pc := 2) fl_X8_13 dX8_fits_2 (kget0 rfl) rfl ?_
  refine r_iload1 (pc := 5) dX8_fits_5 ?_
  refine r_callS2i (pc := 6) lk_X8_152 dX8_fits_6 (s8_isPlace hM hI hZ) (by decide) (Nat.le_of_ble_eq_true rfl) ⟨Nat.zero_le _, Nat.zero_le _⟩ ?_
  refine b_if_eq (pc := 9) 16 (by decide) dX8_fits_9 (fun h1 => ?_) (fun h1 => ?_)
  · refine n_iconst_1 (pc := 16) dX8_fits_16 ?_
    exact no 1 (by omega) (by omega) (by rw [ea, h1]; rfl)
  · rw [h1] at ea
    have ea : A_fits x w = rO (nI (fitZ (wz w) (nm x))) w := ea
    obtain ⟨c1, c2⟩ := inR_nm h1 (by omega)
    generalize nm x = t at *
    subst c2
    refine n_iconst_0 (pc := 12) dX8_fits_12 ?_
    refine r_goto (pc := 13) 17 (by decide) dX8_fits_13 ?_
    refine ok ?_
    have hM0 : kset M b (ii S 0 (nI 0)) (b + 2) = some (cI 563 (S.2 1)) := kget rfl
    refine r_iconst_m1 (pc := 25) dX8_fits_25 ?_
    refine r_istore2 (pc := 26) dX8_fits_26 rfl ?_
    refine n_iconst_0 (pc := 27) dX8_fits_27 ?_
    refine r_istore3 (pc := 28) dX8_fits_28 rfl ?_
    refine n_iconst_0 (pc := 29) dX8_fits_29 ?_
    refine r_istore4 (pc := 30) dX8_fits_30 rfl ?_
    have step : ∀ (k : Nat) (be : Bool) (o : Int32) (x3 : Int) (lb : Nat) , k < zt (wz w) → (if be then nI k else o) = nI lb → (if be then lwk (wz w) t k else x3) = lwk (wz w) t lb → (∀ a5 a6 a7, nc a5 = true → nc a6 = true → 
      G mX8_fits 12 (.inl false) 0 0 (tMo M b (A_fits (nI t) w)) none 0 0 32 [some (.ref b), some (.int (nI t)), some (.int (nI lb)), some (.int (iI (lwk (wz w) t lb))), some (.int (nI (k + 1))), a5, a6, a7] [] (kset M b (ii S 0 (nI 0)))
      ) →
      G mX8_fits 12 (.inl false) 0 0 (tMo M b (A_fits (nI t) w)) none 0 0 92 [some (.ref b), some (.int (nI t)), some (.int o), some (.int (iI x3)), some (.int (nI k)), some (.int (nI (zF (wz w) k))), some (.int (iI (lwk (wz w) t k))), none] [.int (bI be)] (kset M b (ii S 0 (nI 0)))
      := by
      intro k be o x3 lb hk q1 q2 nx9
      cases be with
      | true =>
        have q1 : nI k = nI lb := q1
        have q2 : lwk (wz w) t k = lwk (wz w) t lb := q2
        refine r_istore7 (pc := 92) dX8_fits_92 rfl ?_
        refine r_iload7 (pc := 94) dX8_fits_94 ?_
        refine b_if_eq (b := true) (pc := 96) 104 (by decide) dX8_fits_96 (fun h9 => by cases h9) (fun _ => ?_)
        refine r_iload4 (pc := 99) dX8_fits_99 ?_
        refine r_goto (pc := 101) 105 (by decide) dX8_fits_101 ?_
        refine r_istore2 (pc := 105) dX8_fits_105 rfl ?_
        refine r_iload7 (pc := 106) dX8_fits_106 ?_
        refine b_if_eq (b := true) (pc := 108) 116 (by decide) dX8_fits_108 (fun h9 => by cases h9) (fun _ => ?_)
        refine r_iload6 (pc := 111) dX8_fits_111 ?_
        refine r_goto (pc := 113) 117 (by decide) dX8_fits_113 ?_
        refine r_istore3 (pc := 117) dX8_fits_117 rfl ?_
        refine n_iinc4 (pc := 118) dX8_fits_118 rfl ?_
        refine r_goto (pc := 121) 32 (by decide) dX8_fits_121 ?_
        have q := nx9 (some (.int (nI (zF (wz w) k)))) (some (.int (iI (lwk (wz w) t k)))) (some (.int (bI true))) rfl rfl
        rw [← q1, ← q2] at q
        exact q
      | false =>
        have q1 : o = nI lb := q1
        have q2 : x3 = lwk (wz w) t lb := q2
        refine r_istore7 (pc := 92) dX8_fits_92 rfl ?_
        refine r_iload7 (pc := 94) dX8_fits_94 ?_
        refine b_if_eq (b := false) (pc := 96) 104 (by decide) dX8_fits_96 (fun _ => ?_) (fun h9 => by cases h9)
        refine r_iload2 (pc := 104) dX8_fits_104 ?_
        refine r_istore2 (pc := 105) dX8_fits_105 rfl ?_
        refine r_iload7 (pc := 106) dX8_fits_106 ?_
        refine b_if_eq (b := false) (pc := 108) 116 (by decide) dX8_fits_108 (fun _ => ?_) (fun h9 => by cases h9)
        refine r_iload3 (pc := 116) dX8_fits_116 ?_
        refine r_istore3 (pc := 117) dX8_fits_117 rfl ?_
        refine n_iinc4 (pc := 118) dX8_fits_118 rfl ?_
        refine r_goto (pc := 121) 32 (by decide) dX8_fits_121 ?_
        have q := nx9 (some (.int (nI (zF (wz w) k)))) (some (.int (iI (lwk (wz w) t k)))) (some (.int (bI false))) rfl rfl
        rw [← q1, ← q2] at q
        exact q
    have rest : ∀ a5 a6 a7, nc a5 = true → nc a6 = true →
      G mX8_fits 12 (.inl false) 0 0 (tMo M b (A_fits (nI t) w)) none 0 0 32 [some (.ref b), some (.int (nI t)), some (.int (nI (amin (lwk (wz w) t) 0))), some (.int (iI (lwk (wz w) t (amin (lwk (wz w) t) 0)))), some (.int (nI (0 + 1))), a5, a6, a7] [] (kset M b (ii S 0 (nI 0)))
      := by
      refine up_to (N := zt (wz w) - 1) (k := 0) (fun k => ∀ a5 a6 a7, nc a5 = true → nc a6 = true →
        G mX8_fits 12 (.inl false) 0 0 (tMo M b (A_fits (nI t) w)) none 0 0 32 [some (.ref b), some (.int (nI t)), some (.int (nI (amin (lwk (wz w) t) k))), some (.int (iI (lwk (wz w) t (amin (lwk (wz w) t) k)))), some (.int (nI (k + 1))), a5, a6, a7] [] (kset M b (ii S 0 (nI 0)))
        ) (fun a5 a6 a7 n5 n6 => ?_) (fun k hk ih a5 a6 a7 n5 n6 => ?_) (Nat.zero_le _)
      · refine r_iload4 (pc := 32) dX8_fits_32 ?_
        refine r_aload0 (pc := 34) dX8_fits_34 ?_
        refine r_getf (pc := 35) fl_X8_13 dX8_fits_35 (kget0 rfl) rfl ?_
        refine r_callS1i (pc := 38) lk_X8_54 dX8_fits_38 (s8_tiles hM0 hI hZ) (by decide) (Nat.le_of_ble_eq_true rfl) ⟨Nat.zero_le _, Nat.zero_le _⟩ ?_
        refine n_icmp_ge (pc := 41) 124 (by decide) dX8_fits_41 (by omega) (by omega) (fun hc41 => ?_) (fun hc41 => absurd hc41 (by omega))
        refine r_iload2 (pc := 124) dX8_fits_124 ?_
        refine p_ireturn (pc := 125) false rfl rfl rfl dX8_fits_125 (Nat.zero_le _) (Nat.zero_le _) (Or.inl rfl) ?_
        rw [ea]
        exact mo rfl rfl (h.ii0 (nI 0))
      · have hk1 : k + 1 < zt (wz w) := by omega
        have hm := amin_le (lwk (wz w) t) k
        have b1 : 0 ≤ lwk (wz w) t (k + 1) ∧ lwk (wz w) t (k + 1) ≤ 19602 := hZ.lwB (hZ.fq hk1) (hZ.oq hk1) c1
        have b2 : 0 ≤ lwk (wz w) t (amin (lwk (wz w) t) k) ∧ lwk (wz w) t (amin (lwk (wz w) t) k) ≤ 19602 := hZ.lwB (hZ.fq (show amin (lwk (wz w) t) k < zt (wz w) by omega)) (hZ.oq (show amin (lwk (wz w) t) k < zt (wz w) by omega)) c1
        have e : amin (lwk (wz w) t) (k + 1) = if lwk (wz w) t (k + 1) < lwk (wz w) t (amin (lwk (wz w) t) k) then k + 1 else amin (lwk (wz w) t) k := rfl
        refine G_fgt 7 ?_
        refine r_iload4 (pc := 32) dX8_fits_32 ?_
        refine r_aload0 (pc := 34) dX8_fits_34 ?_
        refine r_getf (pc := 35) fl_X8_13 dX8_fits_35 (kget0 rfl) rfl ?_
        refine r_callS1i (pc := 38) lk_X8_54 dX8_fits_38 (s8_tiles hM0 hI hZ) (by decide) (Nat.le_of_ble_eq_true rfl) ⟨Nat.zero_le _, Nat.zero_le _⟩ ?_
        refine n_icmp_ge (pc := 41) 124 (by decide) dX8_fits_41 (by omega) (by omega) (fun hc41 => absurd hc41 (by omega)) (fun hc41 => ?_)
        refine r_aload0 (pc := 44) dX8_fits_44 ?_
        refine r_getf (pc := 45) fl_X8_13 dX8_fits_45 (kget0 rfl) rfl ?_
        refine r_iload4 (pc := 48) dX8_fits_48 ?_
        refine r_callS2i (pc := 50) lk_X8_123 dX8_fits_50 (s8_firstOf hM0 hI hZ hk1) (by decide) (Nat.le_of_ble_eq_true rfl) ⟨Nat.zero_le _, Nat.zero_le _⟩ ?_
        refine r_istore5 (pc := 53) dX8_fits_53 rfl ?_
        refine r_aload0 (pc := 55) dX8_fits_55 ?_
        refine r_getf (pc := 56) fl_X8_13 dX8_fits_56 (kget0 rfl) rfl ?_
        refine r_iload5 (pc := 59) dX8_fits_59 ?_
        refine r_aload0 (pc := 61) dX8_fits_61 ?_
        refine r_getf (pc := 62) fl_X8_13 dX8_fits_62 (kget0 rfl) rfl ?_
        refine r_iload5 (pc := 65) dX8_fits_65 ?_
        refine r_callS2i (pc := 67) lk_X8_82 dX8_fits_67 (s8_otherOf hM0 hI hZ hk1) (by decide) (Nat.le_of_ble_eq_true rfl) ⟨Nat.zero_le _, Nat.zero_le _⟩ ?_
        refine r_iload1 (pc := 70) dX8_fits_70 ?_
        refine r_callS4i (pc := 71) lk_X8_88 dX8_fits_71 (s8_bestError hM0 hI hZ (hZ.fq hk1) (hZ.oq hk1) c1) (by decide) (Nat.le_of_ble_eq_true rfl) ⟨Nat.zero_le _, Nat.zero_le _⟩ ?_
        refine r_istore6 (pc := 74) dX8_fits_74 rfl ?_
        refine r_iload2 (pc := 76) dX8_fits_76 ?_
        refine r_iconst_m1 (pc := 77) dX8_fits_77 ?_
        refine r_icmp_eq (pc := 78) 87 (by decide) dX8_fits_78 (fun h9 => absurd h9 (nI_ne_m1 (by omega))) (fun _ => ?_)
        refine r_iload6 (pc := 81) dX8_fits_81 ?_
        refine r_iload3 (pc := 83) dX8_fits_83 ?_
        change G mX8_fits 12 (.inl false) 0 0 _ none 0 0 84 _ [.int (iI (lwk (wz w) t (amin (lwk (wz w) t) k))), .int (iI (lwk (wz w) t (k + 1)))] _
        refine z_icmp_ge (pc := 84) 91 (by decide) dX8_fits_84 (by omega) (by omega) (by omega) (by omega) (fun h9 => ?_) (fun h9 => ?_)
        · rw [if_neg (by omega)] at e
          refine n_iconst_0 (pc := 91) dX8_fits_91 ?_
          exact step (k + 1) false _ _ (amin (lwk (wz w) t) (k + 1)) hk1 (by rw [e]; rfl) (by rw [e]; rfl) ih
        · rw [if_pos h9] at e
          refine n_iconst_1 (pc := 87) dX8_fits_87 ?_
          refine r_goto (pc := 88) 92 (by decide) dX8_fits_88 ?_
          exact step (k + 1) true _ _ (amin (lwk (wz w) t) (k + 1)) hk1 (by rw [e]; rfl) (by rw [e]; rfl) ih
    have h0 : 0 < zt (wz w) := by omega
    refine r_iload4 (pc := 32) dX8_fits_32 ?_
    refine r_aload0 (pc := 34) dX8_fits_34 ?_
    refine r_getf (pc := 35) fl_X8_13 dX8_fits_35 (kget0 rfl) rfl ?_
    refine r_callS1i (pc := 38) lk_X8_54 dX8_fits_38 (s8_tiles hM0 hI hZ) (by decide) (Nat.le_of_ble_eq_true rfl) ⟨Nat.zero_le _, Nat.zero_le _⟩ ?_
    refine n_icmp_ge (pc := 41) 124 (by decide) dX8_fits_41 (by omega) (by omega) (fun hc41 => absurd hc41 (by omega)) (fun hc41 => ?_)
    refine r_aload0 (pc := 44) dX8_fits_44 ?_
    refine r_getf (pc := 45) fl_X8_13 dX8_fits_45 (kget0 rfl) rfl ?_
    refine r_iload4 (pc := 48) dX8_fits_48 ?_
    refine r_callS2i (pc := 50) lk_X8_123 dX8_fits_50 (s8_firstOf hM0 hI hZ h0) (by decide) (Nat.le_of_ble_eq_true rfl) ⟨Nat.zero_le _, Nat.zero_le _⟩ ?_
    refine r_istore5 (pc := 53) dX8_fits_53 rfl ?_
    refine r_aload0 (pc := 55) dX8_fits_55 ?_
    refine r_getf (pc := 56) fl_X8_13 dX8_fits_56 (kget0 rfl) rfl ?_
    refine r_iload5 (pc := 59) dX8_fits_59 ?_
    refine r_aload0 (pc := 61) dX8_fits_61 ?_
    refine r_getf (pc := 62) fl_X8_13 dX8_fits_62 (kget0 rfl) rfl ?_
    refine r_iload5 (pc := 65) dX8_fits_65 ?_
    refine r_callS2i (pc := 67) lk_X8_82 dX8_fits_67 (s8_otherOf hM0 hI hZ h0) (by decide) (Nat.le_of_ble_eq_true rfl) ⟨Nat.zero_le _, Nat.zero_le _⟩ ?_
    refine r_iload1 (pc := 70) dX8_fits_70 ?_
    refine r_callS4i (pc := 71) lk_X8_88 dX8_fits_71 (s8_bestError hM0 hI hZ (hZ.fq h0) (hZ.oq h0) c1) (by decide) (Nat.le_of_ble_eq_true rfl) ⟨Nat.zero_le _, Nat.zero_le _⟩ ?_
    refine r_istore6 (pc := 74) dX8_fits_74 rfl ?_
    refine r_iload2 (pc := 76) dX8_fits_76 ?_
    refine r_iconst_m1 (pc := 77) dX8_fits_77 ?_
    refine r_icmp_eq (pc := 78) 87 (by decide) dX8_fits_78 (fun _ => ?_) (fun h9 => absurd rfl h9)
    refine n_iconst_1 (pc := 87) dX8_fits_87 ?_
    refine r_goto (pc := 88) 92 (by decide) dX8_fits_88 ?_
    exact step 0 true _ 0 (amin (lwk (wz w) t) 0) h0 rfl rfl rest
end MFACE2

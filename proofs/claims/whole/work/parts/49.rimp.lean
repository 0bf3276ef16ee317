theorem ia_self (S : BS) (d : Nat) : ia S d (S.2 d) = S := by
  unfold ia
  refine Prod.ext rfl (funext (fun i => ?_))
  show (if i = d then S.2 d else S.2 i) = S.2 i
  by_cases e : i = d
  · rw [if_pos e, e]
  · rw [if_neg e]
theorem ia_ia (S : BS) (d : Nat) (f g : Nat → Int32) : ia (ia S d f) d g = ia S d g := by
  unfold ia
  refine Prod.ext rfl (funext (fun i => ?_))
  show (if i = d then g else if i = d then f else S.2 i) = (if i = d then g else S.2 i)
  by_cases e : i = d <;> simp [e]
theorem ia_comm (S : BS) {d e : Nat} (h : d ≠ e) (f g : Nat → Int32) : ia (ia S d f) e g = ia (ia S e g) d f := by
  unfold ia
  refine Prod.ext rfl (funext (fun i => ?_))
  show (if i = e then g else if i = d then f else S.2 i) = (if i = d then f else if i = e then g else S.2 i)
  by_cases e1 : i = d
  · rw [if_neg (by omega), if_pos e1]; rw [if_pos e1]
  · rw [if_neg e1, if_neg e1]
theorem ii_ii (S : BS) (j : Nat) (v w : Int32) : ii (ii S j v) j w = ii S j w := by
  unfold ii
  refine Prod.ext (funext (fun i => ?_)) rfl
  show (if i = j then w else if i = j then v else S.1 i) = (if i = j then w else S.1 i)
  by_cases e : i = j <;> simp [e]
def imS (S : BS) (d : Nat) (v w u : Int32) (f : Nat → Int32) : BS := ia (ii (fnd S v w) 5 u) d f
theorem imS_fnd (S : BS) (d : Nat) (v w u : Int32) (f : Nat → Int32) (v' w' : Int32) : fnd (imS S d v w u f) v' w' = imS S d v' w' u f := by
  refine Prod.ext (funext (fun i => ?_)) rfl
  show (if i = 4 then w' else if i = 3 then v' else if i = 5 then u else if i = 4 then w else if i = 3 then v else S.1 i) = (if i = 5 then u else if i = 4 then w' else if i = 3 then v' else S.1 i)
  by_cases h4 : i = 4
  · simp [h4]
  · by_cases h3 : i = 3
    · simp [h3]
    · simp [h3, h4]
theorem imS_ia (S : BS) (d : Nat) (v w u : Int32) (f g : Nat → Int32) : ia (imS S d v w u f) d g = imS S d v w u g := ia_ia _ _ _ _
theorem imS_ii (S : BS) (d : Nat) (v w u u' : Int32) (f : Nat → Int32) : ii (imS S d v w u f) 5 u' = imS S d v w u' f := by
  refine Prod.ext (funext (fun i => ?_)) rfl
  show (if i = 5 then u' else if i = 5 then u else (fnd S v w).1 i) = (if i = 5 then u' else (fnd S v w).1 i)
  by_cases e : i = 5 <;> simp [e]
theorem imS_of (S : BS) (d : Nat) (v w u : Int32) : fnd (ii S 5 u) v w = imS S d v w u (S.2 d) := by
  refine Prod.ext (funext (fun i => ?_)) (funext (fun i => ?_))
  · show (if i = 4 then w else if i = 3 then v else if i = 5 then u else S.1 i) = (if i = 5 then u else if i = 4 then w else if i = 3 then v else S.1 i)
    by_cases h4 : i = 4
    · simp [h4]
    · by_cases h3 : i = 3
      · simp [h3]
      · simp [h3, h4]
  · show S.2 i = (if i = d then S.2 d else S.2 i)
    by_cases e : i = d <;> simp [e]
theorem imS_2 {S : BS} {d : Nat} {v w u : Int32} {f : Nat → Int32} : (imS S d v w u f).2 d = f := ia_same
section RIMP
variable {M : Mem} {b : Nat} {S : BS} {z : ZS} {c d : Nat}
def tI (r : Option Value) (M : Mem) (b : Nat) (S : BS) (d : Nat) (z : ZS) (u : Nat) : TG := tP r (fun Mf => ∃ v w f', InvR f' z ∧ Mf = kset M b (imS S d v w (nI u) f'))
set_option maxRecDepth 20000 in
theorem s8_improveOn (hK : KR c d) (hI : InvR (S.2 d) z) (hZ : ZOK z) {m : Nat} (hm : m < 2147483648) : SpecP mX8_improveOn 9 0 0 [.ref b, .ref (b + c), .int (nI m)] (kset M b S) (tI (some (.int (iI (erAll z - erAll (impZ m z))))) M b S d (impZ m z) (impN m z)) := by
  refine Spec_of [some (.ref b), some (.ref (b + c)), some (.int (nI m)), none] (by decide) (Nat.le_of_ble_eq_true rfl) rfl ?_
  have lp : ∀ (fu i : Nat) (v w : Int32) (f : Nat → Int32) (y : ZS), fu + i = m → InvR f y → ZOK y → SK (imS S d v w (nI i) f) (bestZ y) → impZ fu y = impZ m z → impN fu y + i = impN m z →
    G mX8_improveOn 9 (.inl false) 0 0 (tI (some (.int (iI (erAll z - erAll (impZ m z))))) M b S d (impZ m z) (impN m z)) none 0 0 12 [some (.ref b), some (.ref (b + c)), some (.int (nI m)), some (.int (iI (erAll z - erAll y)))] [] (kset M b (imS S d v w (nI i) f))
    := by
    intro fu
    induction fu with
    | zero =>
      intro i v w f y hfi hI hZ hB he hn
      have he : y = impZ m z := he
      have hn : 0 + i = impN m z := hn
      have h5 : (imS S d v w (nI i) f).1 5 = nI i := rfl
      refine r_aload0 (pc := 12) dX8_improveOn_12 ?_
      refine r_getf (pc := 13) fl_X8_135 dX8_improveOn_13 (kget0 rfl) rfl ?_
      rw [h5]
      refine r_iload2 (pc := 16) dX8_improveOn_16 ?_
      refine n_icmp_ge (pc := 17) 68 (by decide) dX8_improveOn_17 (by omega) (by omega) (fun hc17 => ?_) (fun hc17 => absurd hc17 (by omega))
      refine r_iload3 (pc := 68) dX8_improveOn_68 ?_
      exact p_ireturn (pc := 69) false rfl rfl rfl dX8_improveOn_69 (Nat.zero_le _) (Nat.zero_le _) (Or.inl rfl) ⟨by rw [he], v, w, f, by rw [← he]; exact hI, by rw [← hn, Nat.zero_add]⟩
    | succ fu ih =>
      intro i v w f y hfi hI hZ hB he hn
      have h5 : (imS S d v w (nI i) f).1 5 = nI i := rfl
      have h3 := hB.1
      have h4 := hB.2
      have hok := bestZ_ok hZ
      have out : y = impZ m z → i = impN m z →
        G mX8_improveOn 9 (.inl false) 0 0 (tI (some (.int (iI (erAll z - erAll (impZ m z))))) M b S d (impZ m z) (impN m z)) none 0 0 68 [some (.ref b), some (.ref (b + c)), some (.int (nI m)), some (.int (iI (erAll z - erAll y)))] [] (kset M b (imS S d v w (nI i) f))
        := by
        intro e1 e2
        refine r_iload3 (pc := 68) dX8_improveOn_68 ?_
        exact p_ireturn (pc := 69) false rfl rfl rfl dX8_improveOn_69 (Nat.zero_le _) (Nat.zero_le _) (Or.inl rfl) ⟨by rw [e1], v, w, f, by rw [← e1]; exact hI, by rw [e2]⟩
      refine r_aload0 (pc := 12) dX8_improveOn_12 ?_
      refine r_getf (pc := 13) fl_X8_135 dX8_improveOn_13 (kget0 rfl) rfl ?_
      rw [h5]
      refine r_iload2 (pc := 16) dX8_improveOn_16 ?_
      refine n_icmp_ge (pc := 17) 68 (by decide) dX8_improveOn_17 (by omega) (by omega) (fun hc17 => absurd hc17 (by omega)) (fun hc17 => ?_)
      refine r_aload0 (pc := 20) dX8_improveOn_20 ?_
      refine r_getf (pc := 21) fl_X8_106 dX8_improveOn_21 (kget0 rfl) rfl ?_
      rw [h3]
      refine r_iconst_m1 (pc := 24) dX8_improveOn_24 ?_
      cases hq : bestZ y with
      | none =>
        rw [impZ_none hq] at he
        rw [impN_none hq] at hn
        exact r_icmp_eq (pc := 25) 68 (by decide) dX8_improveOn_25 (fun _ => out he (by omega)) (fun h9 => absurd rfl h9)
      | some qq =>
        obtain ⟨n, g⟩ := qq
        have ho := hok _ hq
        have ho1 : n < 30000 := ho.1
        have ho2 : -100000 ≤ g ∧ g ≤ 100000 := ho.2
        have hvg := bestZ_g _ hq
        have hvg : VG y n g := hvg
        rw [hq] at h3 h4
        have h3 : (imS S d v w (nI i) f).1 3 = nI n := h3
        have h4 : (imS S d v w (nI i) f).1 4 = iI g := h4
        refine r_icmp_eq (pc := 25) 68 (by decide) dX8_improveOn_25 (fun h9 => absurd h9 (nI_ne_m1 (by omega))) (fun _ => ?_)
        refine r_aload0 (pc := 28) dX8_improveOn_28 ?_
        refine r_getf (pc := 29) fl_X8_109 dX8_improveOn_29 (kget0 rfl) rfl ?_
        rw [h4]
        refine z_if_le (pc := 32) 68 (by decide) dX8_improveOn_32 (by omega) (by omega) (fun h9 => out (by rw [← he, impZ_stop hq (by omega)]) (by rw [← hn, impN_stop hq (by omega)]; omega)) (fun h9 => ?_)
        obtain ⟨d1, d2, d3, -⟩ := do_gain hZ hvg
        rw [impZ_go hq h9] at he
        rw [impN_go hq h9] at hn
        have hch := hK.to (M := M) (b := b) (s8_change (M := kset M b (imS S d v w (nI i) f)) (a := b + c) (f := (imS S d v w (nI i) f).2 d) (by rw [imS_2]; exact hI) hZ hvg)
        refine r_iload3 (pc := 35) dX8_improveOn_35 ?_
        refine r_aload0 (pc := 36) dX8_improveOn_36 ?_
        refine r_getf (pc := 37) fl_X8_109 dX8_improveOn_37 (kget0 rfl) rfl ?_
        rw [h4]
        first | refine n_iadd (pc := 40) dX8_improveOn_40 ?_ | refine z_iadd (pc := 40) dX8_improveOn_40 ?_ | refine r_iadd (pc := 40) dX8_improveOn_40 ?_
        refine r_istore3 (pc := 41) dX8_improveOn_41 rfl ?_
        refine r_aload1 (pc := 42) dX8_improveOn_42 ?_
        refine r_aload0 (pc := 43) dX8_improveOn_43 ?_
        refine r_getf (pc := 44) fl_X8_106 dX8_improveOn_44 (kget0 rfl) rfl ?_
        rw [h3]
        refine r_callS2w (pc := 47) lk_X8_142 dX8_improveOn_47 hch  (by decide) (Nat.le_of_ble_eq_true rfl) ⟨Nat.zero_le _, Nat.zero_le _⟩ (fun M9 h9 => ?_)
        obtain ⟨f2, hI2, rfl⟩ := h9
        rw [imS_ia]
        have h5 : (imS S d v w (nI i) f2).1 5 = nI i := rfl
        refine r_aload0 (pc := 50) dX8_improveOn_50 ?_
        refine r_dup (pc := 51) dX8_improveOn_51 rfl ?_
        refine r_getf (pc := 52) fl_X8_135 dX8_improveOn_52 (kget0 rfl) rfl ?_
        rw [h5]
        refine n_iconst_1 (pc := 55) dX8_improveOn_55 ?_
        first | refine n_iadd (pc := 56) dX8_improveOn_56 ?_ | refine z_iadd (pc := 56) dX8_improveOn_56 ?_ | refine r_iadd (pc := 56) dX8_improveOn_56 ?_
        refine r_putfI (pc := 57) fl_X8_135 dX8_improveOn_57 (kget0 rfl) (Nat.le_of_ble_eq_true rfl) ?_
        refine G_M bii_X8_12 ?_
        rw [imS_ii]
        refine r_aload0 (pc := 60) dX8_improveOn_60 ?_
        refine r_aload1 (pc := 61) dX8_improveOn_61 ?_
        refine r_callV1w (pc := 62) lk_X8_138 dX8_improveOn_62 (kget0 rfl) (s8_find (M := M) (S := imS S d v w (nI (i + 1)) f2) hK (by rw [imS_2]; exact hI2) d3)  (by decide) (Nat.le_of_ble_eq_true rfl) ⟨Nat.zero_le _, Nat.zero_le _⟩ (fun M9 h9 => ?_)
        obtain ⟨v', w', hB', rfl⟩ := h9
        rw [imS_fnd] at hB' ⊢
        refine r_goto (pc := 65) 12 (by decide) dX8_improveOn_65 ?_
        rw [show erAll z - erAll y + g = erAll z - erAll (doZ y n) by omega]
        exact ih (i + 1) v' w' f2 (doZ y n) (by omega) hI2 d3 hB' he (by omega)
  refine n_iconst_0 (pc := 0) dX8_improveOn_0 ?_
  refine r_istore3 (pc := 1) dX8_improveOn_1 rfl ?_
  refine r_aload0 (pc := 2) dX8_improveOn_2 ?_
  refine n_iconst_0 (pc := 3) dX8_improveOn_3 ?_
  refine r_putfI (pc := 4) fl_X8_135 dX8_improveOn_4 (kget0 rfl) (Nat.le_of_ble_eq_true rfl) ?_
  refine G_M bii_X8_12 ?_
  refine r_aload0 (pc := 7) dX8_improveOn_7 ?_
  refine r_aload1 (pc := 8) dX8_improveOn_8 ?_
  refine r_callV1w (pc := 9) lk_X8_138 dX8_improveOn_9 (kget0 rfl) (s8_find (M := M) (S := ii S 5 (nI 0)) hK hI hZ)  (by decide) (Nat.le_of_ble_eq_true rfl) ⟨Nat.zero_le _, Nat.zero_le _⟩ (fun M9 h9 => ?_)
  obtain ⟨v', w', hB', rfl⟩ := h9
  rw [imS_of S d] at hB' ⊢
  have h := lp m 0 v' w' _ z (by omega) hI hZ hB' rfl rfl
  rw [Int.sub_self (erAll z)] at h
  exact h
theorem s8_turnedOne (hK : KR c d) (hI : InvR (S.2 d) z) (hZ : ZOK z) {k : Nat} (hk : k < 2147483648) : SpecP mX8_turnedOne 7 0 0 [.ref b, .ref (b + c), .int (nI k)] (kset M b S) (tK (some (.int (bI (canT z k)))) M b S d (aT z k)) := by
  refine Spec_of [some (.ref b), some (.ref (b + c)), some (.int (nI k)), none] (by decide) (Nat.le_of_ble_eq_true rfl) rfl ?_
  refine r_aload1 (pc := 0) dX8_turnedOne_0 ?_
  refine r_iload2 (pc := 1) dX8_turnedOne_1 ?_
  refine r_callS2i (pc := 2) lk_X8_155 dX8_turnedOne_2 (s8_canTurn hK.get hI hZ hk) (by decide) (Nat.le_of_ble_eq_true rfl) ⟨Nat.zero_le _, Nat.zero_le _⟩ ?_
  refine r_istore3 (pc := 5) dX8_turnedOne_5 rfl ?_
  refine r_iload3 (pc := 6) dX8_turnedOne_6 ?_
  refine b_if_eq (pc := 7) 20 (by decide) dX8_turnedOne_7 (fun h1 => ?_) (fun h1 => ?_)
  · refine r_iload3 (pc := 20) dX8_turnedOne_20 ?_
    exact p_ireturn (pc := 21) false rfl rfl (nar_bI _) dX8_turnedOne_21 (Nat.zero_le _) (Nat.zero_le _) (Or.inl rfl) ⟨rfl, S.2 d, by unfold aT; rw [h1]; exact hI, by rw [ia_self]⟩
  · have hk2 : k < zt z := by
      have h2 := h1
      unfold canT at h2
      simp only [Bool.and_eq_true, decide_eq_true_eq] at h2
      exact h2.1
    refine r_aload1 (pc := 10) dX8_turnedOne_10 ?_
    refine r_aload1 (pc := 11) dX8_turnedOne_11 ?_
    refine r_iload2 (pc := 12) dX8_turnedOne_12 ?_
    refine r_callS2i (pc := 13) lk_X8_123 dX8_turnedOne_13 (s8_firstOf hK.get hI hZ hk2) (by decide) (Nat.le_of_ble_eq_true rfl) ⟨Nat.zero_le _, Nat.zero_le _⟩ ?_
    refine r_callS2x (pc := 16) lk_X8_126 dX8_turnedOne_16 (hK.to (s8_turnOn hI hZ hk2))  (by decide) (Nat.le_of_ble_eq_true rfl) ⟨Nat.zero_le _, Nat.zero_le _⟩ (fun M9 h9 => ?_)
    obtain ⟨f', hI', rfl⟩ := h9
    refine r_pop (pc := 19) dX8_turnedOne_19 rfl ?_
    refine r_iload3 (pc := 20) dX8_turnedOne_20 ?_
    exact p_ireturn (pc := 21) false rfl rfl (nar_bI _) dX8_turnedOne_21 (Nat.zero_le _) (Nat.zero_le _) (Or.inl rfl) ⟨rfl, f', by unfold aT; rw [h1]; exact hI', rfl⟩
theorem s8_swapped (hK : KR c d) (hI : InvR (S.2 d) z) (hZ : ZOK z) {j k : Nat} (hj : j < 2147483648) (hk : k < 2147483648) : SpecP mX8_swapped 8 0 0 [.ref b, .ref (b + c), .int (nI j), .int (nI k)] (kset M b S) (tK (some (.int (bI (canS z j k)))) M b S d (aS z j k)) := by
  refine Spec_of [some (.ref b), some (.ref (b + c)), some (.int (nI j)), some (.int (nI k)), none] (by decide) (Nat.le_of_ble_eq_true rfl) rfl ?_
  refine r_aload1 (pc := 0) dX8_swapped_0 ?_
  refine r_iload2 (pc := 1) dX8_swapped_1 ?_
  refine r_iload3 (pc := 2) dX8_swapped_2 ?_
  refine r_callS3i (pc := 3) lk_X8_182 dX8_swapped_3 (s8_canSwap hK.get hI hZ hj hk) (by decide) (Nat.le_of_ble_eq_true rfl) ⟨Nat.zero_le _, Nat.zero_le _⟩ ?_
  refine r_istore4 (pc := 6) dX8_swapped_6 rfl ?_
  refine r_iload4 (pc := 8) dX8_swapped_8 ?_
  refine b_if_eq (pc := 10) 28 (by decide) dX8_swapped_10 (fun h1 => ?_) (fun h1 => ?_)
  · refine r_iload4 (pc := 28) dX8_swapped_28 ?_
    exact p_ireturn (pc := 30) false rfl rfl (nar_bI _) dX8_swapped_30 (Nat.zero_le _) (Nat.zero_le _) (Or.inl rfl) ⟨rfl, S.2 d, by unfold aS; rw [h1]; exact hI, by rw [ia_self]⟩
  · have h2 := h1
    unfold canS at h2
    simp only [Bool.and_eq_true, decide_eq_true_eq] at h2
    refine r_aload1 (pc := 13) dX8_swapped_13 ?_
    refine r_aload1 (pc := 14) dX8_swapped_14 ?_
    refine r_iload2 (pc := 15) dX8_swapped_15 ?_
    refine r_callS2i (pc := 16) lk_X8_123 dX8_swapped_16 (s8_firstOf hK.get hI hZ (k := j) (by omega)) (by decide) (Nat.le_of_ble_eq_true rfl) ⟨Nat.zero_le _, Nat.zero_le _⟩ ?_
    refine r_aload1 (pc := 19) dX8_swapped_19 ?_
    refine r_iload3 (pc := 20) dX8_swapped_20 ?_
    refine r_callS2i (pc := 21) lk_X8_123 dX8_swapped_21 (s8_firstOf hK.get hI hZ (k := k) (by omega)) (by decide) (Nat.le_of_ble_eq_true rfl) ⟨Nat.zero_le _, Nat.zero_le _⟩ ?_
    refine r_callS3x (pc := 24) lk_X8_129 dX8_swapped_24 (hK.to (s8_swapOn hI hZ (j := j) (k := k) (by omega) (by omega) (by omega)))  (by decide) (Nat.le_of_ble_eq_true rfl) ⟨Nat.zero_le _, Nat.zero_le _⟩ (fun M9 h9 => ?_)
    obtain ⟨f', hI', rfl⟩ := h9
    refine r_pop (pc := 27) dX8_swapped_27 rfl ?_
    refine r_iload4 (pc := 28) dX8_swapped_28 ?_
    exact p_ireturn (pc := 30) false rfl rfl (nar_bI _) dX8_swapped_30 (Nat.zero_le _) (Nat.zero_le _) (Or.inl rfl) ⟨rfl, f', by unfold aS; rw [h1]; exact hI', rfl⟩
theorem s8_flipped (hK : KR c d) (hI : InvR (S.2 d) z) (hZ : ZOK z) {x y : Nat} (hx : x < 2147483648) (hy : y < 2147483648) : SpecP mX8_flipped 8 0 0 [.ref b, .ref (b + c), .int (nI x), .int (nI y)] (kset M b S) (tK (some (.int (bI (flA z x y).isSome))) M b S d (flO z (flA z x y))) := by
  refine Spec_of [some (.ref b), some (.ref (b + c)), some (.int (nI x)), some (.int (nI y)), none] (by decide) (Nat.le_of_ble_eq_true rfl) rfl ?_
  refine r_aload1 (pc := 0) dX8_flipped_0 ?_
  refine r_iload2 (pc := 1) dX8_flipped_1 ?_
  refine r_iload3 (pc := 2) dX8_flipped_2 ?_
  refine r_callS3i (pc := 3) lk_X8_185 dX8_flipped_3 (s8_canFlip hK.get hI hZ hx hy) (by decide) (Nat.le_of_ble_eq_true rfl) ⟨Nat.zero_le _, Nat.zero_le _⟩ ?_
  refine r_istore4 (pc := 6) dX8_flipped_6 rfl ?_
  refine r_iload4 (pc := 8) dX8_flipped_8 ?_
  cases hq : flA z x y with
  | none =>
    refine b_if_eq (b := false) (pc := 10) 26 (by decide) dX8_flipped_10 (fun h1 => ?_) (fun h1 => by cases h1)
    refine r_iload4 (pc := 26) dX8_flipped_26 ?_
    exact p_ireturn (pc := 28) false rfl rfl (nar_bI _) dX8_flipped_28 (Nat.zero_le _) (Nat.zero_le _) (Or.inl rfl) ⟨rfl, S.2 d, hI, by rw [ia_self]⟩
  | some kl =>
    obtain ⟨k, l⟩ := kl
    have h3 : x < zc z ∧ y < zr z := by
      refine Classical.byContradiction (fun q => ?_)
      rw [show flA z x y = none from if_neg q] at hq
      cases hq
    have ef : canF z (y * zc z + x) = some (k, l) := by rw [← hq]; exact (if_pos h3).symm
    have hc : k < zt z ∧ zF z k = y * zc z + x ∧ part z k = some l := by
      have e := ef
      unfold canF at e
      cases hb1 : blk z (y * zc z + x) with
      | none => rw [hb1] at e; cases e
      | some k2 =>
        obtain ⟨b1, b2, b3⟩ := (blk_some hZ).mp hb1
        rw [hb1] at e
        have e : (match part z k2 with | none => none | some l => if zH z k2 = 0 ∧ zH z l = 0 then some (k2, l) else none) = some (k, l) := e
        cases hp : part z k2 with
        | none => rw [hp] at e; cases e
        | some l2 =>
          rw [hp] at e
          have e : (if zH z k2 = 0 ∧ zH z l2 = 0 then some (k2, l2) else none) = some (k, l) := e
          split at e
          · cases e; exact ⟨b1, b2, hp⟩
          · cases e
    obtain ⟨c1, c2, c3⟩ := hc
    refine b_if_eq (b := true) (pc := 10) 26 (by decide) dX8_flipped_10 (fun h1 => by cases h1) (fun h1 => ?_)
    refine r_aload1 (pc := 13) dX8_flipped_13 ?_
    refine r_aload1 (pc := 14) dX8_flipped_14 ?_
    refine r_callS1i (pc := 15) lk_X8_40 dX8_flipped_15 (s8_wide hK.get hI) (by decide) (Nat.le_of_ble_eq_true rfl) ⟨Nat.zero_le _, Nat.zero_le _⟩ ?_
    refine r_iload3 (pc := 18) dX8_flipped_18 ?_
    first | refine n_imul (pc := 19) dX8_flipped_19 ?_ | refine z_imul (pc := 19) dX8_flipped_19 ?_ | refine r_imul (pc := 19) dX8_flipped_19 ?_
    refine r_iload2 (pc := 20) dX8_flipped_20 ?_
    first | refine n_iadd (pc := 21) dX8_flipped_21 ?_ | refine z_iadd (pc := 21) dX8_flipped_21 ?_ | refine r_iadd (pc := 21) dX8_flipped_21 ?_
    rw [show zc z * y + x = zF z k by rw [c2, Nat.mul_comm]]
    refine r_callS2x (pc := 22) lk_X8_132 dX8_flipped_22 (hK.to (s8_flipOn hI hZ c1 c3))  (by decide) (Nat.le_of_ble_eq_true rfl) ⟨Nat.zero_le _, Nat.zero_le _⟩ (fun M9 h9 => ?_)
    obtain ⟨f', hI', rfl⟩ := h9
    refine r_pop (pc := 25) dX8_flipped_25 rfl ?_
    refine r_iload4 (pc := 26) dX8_flipped_26 ?_
    exact p_ireturn (pc := 28) false rfl rfl (nar_bI _) dX8_flipped_28 (Nat.zero_le _) (Nat.zero_le _) (Or.inl rfl) ⟨rfl, f', hI', rfl⟩
theorem s8_faded (hK : KR c d) (hI : InvR (S.2 d) z) (hZ : ZOK z) {p q : Nat} (hp : p ≤ 99) (hq : q ≤ 99) : SpecP mX8_faded 4 0 0 [.ref b, .ref (b + c), .int (nI p), .int (nI q)] (kset M b S) (tK (some (.int (bI true))) M b S d (fadeZ z p q)) := by
  refine Spec_of [some (.ref b), some (.ref (b + c)), some (.int (nI p)), some (.int (nI q))] (by decide) (Nat.le_of_ble_eq_true rfl) rfl ?_
  refine r_aload1 (pc := 0) dX8_faded_0 ?_
  refine r_iload2 (pc := 1) dX8_faded_1 ?_
  refine r_iload3 (pc := 2) dX8_faded_2 ?_
  refine r_callS3w (pc := 3) lk_X8_179 dX8_faded_3 (hK.to (s8_fadeOn hI hZ hp hq))  (by decide) (Nat.le_of_ble_eq_true rfl) ⟨Nat.zero_le _, Nat.zero_le _⟩ (fun M9 h9 => ?_)
  obtain ⟨f', hI', rfl⟩ := h9
  refine n_iconst_1 (pc := 6) dX8_faded_6 ?_
  exact p_ireturn (pc := 7) false rfl rfl (by decide) dX8_faded_7 (Nat.zero_le _) (Nat.zero_le _) (Or.inl rfl) ⟨rfl, f', hI', rfl⟩
theorem s8_done {v : Bool} {o : Nat} (h7 : S.1 7 = nI o) : Spec mX8_done 1 0 0 [.ref b, .int (bI v)] (kset M b S) (some (.int (bI true))) (kset M b (ii S 7 (nI (o + if v then 0 else 1)))) := by
  refine Spec_of [some (.ref b), some (.int (bI v))] (by decide) (Nat.le_of_ble_eq_true rfl) rfl ?_
  refine r_aload0 (pc := 0) dX8_done_0 ?_
  refine r_dup (pc := 1) dX8_done_1 rfl ?_
  refine r_getf (pc := 2) fl_X8_176 dX8_done_2 (kget0 rfl) rfl ?_
  rw [h7]
  refine r_iload1 (pc := 5) dX8_done_5 ?_
  refine b_if_eq (pc := 6) 13 (by decide) dX8_done_6 (fun h1 => ?_) (fun h1 => ?_)
  · rw [h1]
    refine n_iconst_1 (pc := 13) dX8_done_13 ?_
    first | refine n_iadd (pc := 14) dX8_done_14 ?_ | refine z_iadd (pc := 14) dX8_done_14 ?_ | refine r_iadd (pc := 14) dX8_done_14 ?_
    refine r_putfI (pc := 15) fl_X8_176 dX8_done_15 (kget0 rfl) (Nat.le_of_ble_eq_true rfl) ?_
    refine G_M bii_X8_14 ?_
    refine n_iconst_1 (pc := 18) dX8_done_18 ?_
    exact r_ireturn (pc := 19) false rfl rfl (by decide) dX8_done_19 (Nat.zero_le _) (Nat.zero_le _) (Or.inl rfl) rfl rfl rfl
  · rw [h1]
    refine n_iconst_0 (pc := 9) dX8_done_9 ?_
    refine r_goto (pc := 10) 14 (by decide) dX8_done_10 ?_
    first | refine n_iadd (pc := 14) dX8_done_14 ?_ | refine z_iadd (pc := 14) dX8_done_14 ?_ | refine r_iadd (pc := 14) dX8_done_14 ?_
    refine r_putfI (pc := 15) fl_X8_176 dX8_done_15 (kget0 rfl) (Nat.le_of_ble_eq_true rfl) ?_
    refine G_M bii_X8_14 ?_
    refine n_iconst_1 (pc := 18) dX8_done_18 ?_
    exact r_ireturn (pc := 19) false rfl rfl (by decide) dX8_done_19 (Nat.zero_le _) (Nat.zero_le _) (Or.inl rfl) rfl rfl rfl
end RIMP

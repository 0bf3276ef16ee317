def stF (n k : Nat) : Nat := if n % 2 = 0 then 2 * k else k + k / (n + 2) * (n + 2)
def stO (n k : Nat) : Nat := if n % 2 = 0 then 2 * k + 1 else k + k / (n + 2) * (n + 2) + (n + 2)
def startZ (n m : Nat) : ZS := (n, m, 0, fun j => if j = 1 then stF n else if j = 2 then stO n else if j = 3 then (fun k => k) else fun _ => 0)
def tl0 (n m : Nat) : Nat := (n + 2) * ((n + 1) * m) / 2
def q0 (n m : Nat) : Nat := (n + 2) * ((n + 1) * m)
def ck1 (n m k : Nat) : Bool := decide (stF n k < stO n k) && (decide (stO n k < q0 n m) && ((decide (stO n k = stF n k + 1) && decide (stF n k % (n + 2) + 1 < n + 2)) || decide (stO n k = stF n k + (n + 2))))
def ck2 (n m i j : Nat) : Bool := (!(decide (i < j)) || decide (stF n i < stF n j)) && (decide (stF n i ≠ stO n j) && (!(decide (stO n i = stO n j)) || decide (i = j)))
def ck3 (n m s : Nat) : Bool := (List.range (tl0 n m)).any (fun k => decide (stF n k = s) || decide (stO n k = s))
def nms : List (Nat × Nat) := [(2, 1), (2, 2), (3, 1), (3, 2), (4, 1), (4, 2), (5, 1), (5, 2), (6, 1), (6, 2)]
theorem ck1_all : nms.all (fun q => (List.range (tl0 q.1 q.2)).all (fun k => ck1 q.1 q.2 k)) = true := by decide +kernel
theorem ck2_all : nms.all (fun q => (List.range (tl0 q.1 q.2)).all (fun i => (List.range (tl0 q.1 q.2)).all (fun j => ck2 q.1 q.2 i j))) = true := by decide +kernel
theorem ck3_all : nms.all (fun q => (List.range (q0 q.1 q.2)).all (fun s => ck3 q.1 q.2 s)) = true := by decide +kernel
theorem nms_in {n m : Nat} (h1 : 2 ≤ n) (h2 : n ≤ 6) (h3 : 1 ≤ m) (h4 : m ≤ 2) : (n, m) ∈ nms := by
  have e1 : n = 2 ∨ n = 3 ∨ n = 4 ∨ n = 5 ∨ n = 6 := by omega
  have e2 : m = 1 ∨ m = 2 := by omega
  rcases e1 with e | e | e | e | e <;> rcases e2 with f | f <;> subst e f <;> decide
theorem startZ_ok {n m : Nat} (h1 : 2 ≤ n) (h2 : n ≤ 6) (h3 : 1 ≤ m) (h4 : m ≤ 2) : ZOK (startZ n m) := by
  have hm := nms_in h1 h2 h3 h4
  have c1 : ∀ k, k < tl0 n m → ck1 n m k = true := fun k hk => List.all_eq_true.mp (List.all_eq_true.mp ck1_all _ hm) k (List.mem_range.mpr hk)
  have c2 : ∀ i, i < tl0 n m → ∀ j, j < tl0 n m → ck2 n m i j = true := fun i hi j hj => List.all_eq_true.mp (List.all_eq_true.mp (List.all_eq_true.mp ck2_all _ hm) i (List.mem_range.mpr hi)) j (List.mem_range.mpr hj)
  have c3 : ∀ s, s < q0 n m → ck3 n m s = true := fun s hs => List.all_eq_true.mp (List.all_eq_true.mp ck3_all _ hm) s (List.mem_range.mpr hs)
  have ez : zt (startZ n m) = tl0 n m := rfl
  have eq : zq (startZ n m) = q0 n m := rfl
  refine ⟨⟨h1, h2, h3, h4⟩, fun s _ => Nat.zero_le _, fun k hk => ?_, fun i j hij hj => ?_, fun i j hi hj => ?_, fun i j hi hj e => ?_, fun s hs => ?_, fun k hk => hk, fun _ _ => Nat.zero_le _, fun _ _ => Nat.zero_le _⟩
  · have := c1 k hk
    simp only [ck1, Bool.and_eq_true, Bool.or_eq_true, decide_eq_true_eq] at this
    exact this
  · have := c2 i (Nat.lt_trans hij hj) j hj
    simp only [ck2, Bool.and_eq_true, Bool.or_eq_true, decide_eq_true_eq, Bool.not_eq_true', decide_eq_false_iff_not] at this
    rcases this.1 with h | h
    · exact absurd hij h
    · exact h
  · have := c2 i hi j hj
    simp only [ck2, Bool.and_eq_true, Bool.or_eq_true, decide_eq_true_eq, Bool.not_eq_true', decide_eq_false_iff_not] at this
    exact this.2.1
  · have := c2 i hi j hj
    simp only [ck2, Bool.and_eq_true, Bool.or_eq_true, decide_eq_true_eq, Bool.not_eq_true', decide_eq_false_iff_not] at this
    rcases this.2.2 with h | h
    · exact absurd e h
    · exact h
  · have := c3 s hs
    simp only [ck3, List.any_eq_true, List.mem_range, Bool.or_eq_true, decide_eq_true_eq] at this
    exact this
theorem startZ_tok (n m : Nat) : TOK (startZ n m) := fun _ _ _ _ e => e
section START2
variable {M : Mem} {b : Nat} {S : BS}
set_option maxRecDepth 20000 in
theorem s_placeAtFirst {n k : Nat} (hc : S.1 0 = nI (n + 2)) (h2 : n ≤ 6) (hk : k < 56) (ho : stO n k < 112) : Spec mX0_placeAtFirst 2 0 0 [.ref b, .int (nI k)] (bset M b S) none (bset M b (ia (ia S 3 (upd (S.2 3) k (nI (stF n k)))) 4 (upd (S.2 4) k (nI (stO n k))))) := by
  refine Spec_of [some (.ref b), some (.int (nI k)), none] (by decide) (Nat.le_of_ble_eq_true rfl) rfl ?_
  refine r_aload0 (pc := 0) dX0_placeAtFirst_0 ?_
  refine r_getf (pc := 1) fl_X0_96 dX0_placeAtFirst_1 (bget0 rfl) rfl ?_
  rw [hc]
  refine n_iconst_2 (pc := 4) dX0_placeAtFirst_4 ?_
  refine n_irem (pc := 5) dX0_placeAtFirst_5 (by omega) (by omega) (by omega) ?_
  refine n_if_ne (pc := 6) 42 (by decide) dX0_placeAtFirst_6 (by omega) (fun h9 => ?_) (fun h9 => ?_)
  · have e1 : stF n k = k + k / (n + 2) * (n + 2) := by unfold stF; rw [if_neg (by omega)]
    have e2 : stO n k = k + k / (n + 2) * (n + 2) + (n + 2) := by unfold stO; rw [if_neg (by omega)]
    have e3 : k / (n + 2) < 56 := Nat.lt_of_le_of_lt (Nat.div_le_self _ _) hk
    rw [e1, e2]
    refine r_iload1 (pc := 42) dX0_placeAtFirst_42 ?_
    refine r_iload1 (pc := 43) dX0_placeAtFirst_43 ?_
    refine r_aload0 (pc := 44) dX0_placeAtFirst_44 ?_
    refine r_getf (pc := 45) fl_X0_96 dX0_placeAtFirst_45 (bget0 rfl) rfl ?_
    rw [hc]
    refine n_idiv (pc := 48) dX0_placeAtFirst_48 (by omega) (by omega) (by omega) ?_
    refine r_aload0 (pc := 49) dX0_placeAtFirst_49 ?_
    refine r_getf (pc := 50) fl_X0_96 dX0_placeAtFirst_50 (bget0 rfl) rfl ?_
    rw [hc]
    first | refine n_imul (pc := 53) dX0_placeAtFirst_53 ?_ | refine z_imul (pc := 53) dX0_placeAtFirst_53 ?_ | refine r_imul (pc := 53) dX0_placeAtFirst_53 ?_
    first | refine n_iadd (pc := 54) dX0_placeAtFirst_54 ?_ | refine z_iadd (pc := 54) dX0_placeAtFirst_54 ?_ | refine r_iadd (pc := 54) dX0_placeAtFirst_54 ?_
    refine r_istore2 (pc := 55) dX0_placeAtFirst_55 rfl ?_
    refine r_aload0 (pc := 56) dX0_placeAtFirst_56 ?_
    refine r_getf (pc := 57) fl_X0_12 dX0_placeAtFirst_57 (bget0 rfl) rfl ?_
    refine r_getf (pc := 60) fl_X0_109 dX0_placeAtFirst_60 (bget rfl) rfl ?_
    refine r_iload1 (pc := 63) dX0_placeAtFirst_63 ?_
    refine r_iload2 (pc := 64) dX0_placeAtFirst_64 ?_
    refine r_callN3v (pc := 65) lk_X0_85 dX0_placeAtFirst_65 (s_putB (j := 3) (by decide) rfl (fun _ => rfl) (by omega) (by decide)) (by decide) (Nat.le_of_ble_eq_true rfl) ⟨Nat.zero_le _, Nat.zero_le _⟩ ?_
    refine r_aload0 (pc := 68) dX0_placeAtFirst_68 ?_
    refine r_getf (pc := 69) fl_X0_12 dX0_placeAtFirst_69 (bget0 rfl) rfl ?_
    refine r_getf (pc := 72) fl_X0_112 dX0_placeAtFirst_72 (bget rfl) rfl ?_
    refine r_iload1 (pc := 75) dX0_placeAtFirst_75 ?_
    refine r_iload2 (pc := 76) dX0_placeAtFirst_76 ?_
    refine r_aload0 (pc := 77) dX0_placeAtFirst_77 ?_
    refine r_getf (pc := 78) fl_X0_96 dX0_placeAtFirst_78 (bget0 rfl) rfl ?_
    rw [show (ia S 3 (upd (S.2 3) k (nI (k + k / (n + 2) * (n + 2))))).1 0 = nI (n + 2) from hc]
    first | refine n_iadd (pc := 81) dX0_placeAtFirst_81 ?_ | refine z_iadd (pc := 81) dX0_placeAtFirst_81 ?_ | refine r_iadd (pc := 81) dX0_placeAtFirst_81 ?_
    refine r_callN3v (pc := 82) lk_X0_85 dX0_placeAtFirst_82 (s_putB (j := 4) (by decide) rfl (fun _ => rfl) (by omega) (by decide)) (by decide) (Nat.le_of_ble_eq_true rfl) ⟨Nat.zero_le _, Nat.zero_le _⟩ ?_
    exact r_return (pc := 85) false rfl rfl dX0_placeAtFirst_85 (Nat.zero_le _) (Nat.zero_le _) (Or.inl rfl) rfl rfl
  · have e1 : stF n k = 2 * k := by unfold stF; rw [if_pos (by omega)]
    have e2 : stO n k = 2 * k + 1 := by unfold stO; rw [if_pos (by omega)]
    rw [e1, e2]
    refine r_aload0 (pc := 9) dX0_placeAtFirst_9 ?_
    refine r_getf (pc := 10) fl_X0_12 dX0_placeAtFirst_10 (bget0 rfl) rfl ?_
    refine r_getf (pc := 13) fl_X0_109 dX0_placeAtFirst_13 (bget rfl) rfl ?_
    refine r_iload1 (pc := 16) dX0_placeAtFirst_16 ?_
    refine n_iconst_2 (pc := 17) dX0_placeAtFirst_17 ?_
    refine r_iload1 (pc := 18) dX0_placeAtFirst_18 ?_
    first | refine n_imul (pc := 19) dX0_placeAtFirst_19 ?_ | refine z_imul (pc := 19) dX0_placeAtFirst_19 ?_ | refine r_imul (pc := 19) dX0_placeAtFirst_19 ?_
    refine r_callN3v (pc := 20) lk_X0_85 dX0_placeAtFirst_20 (s_putB (j := 3) (by decide) rfl (fun _ => rfl) (by omega) (by decide)) (by decide) (Nat.le_of_ble_eq_true rfl) ⟨Nat.zero_le _, Nat.zero_le _⟩ ?_
    refine r_aload0 (pc := 23) dX0_placeAtFirst_23 ?_
    refine r_getf (pc := 24) fl_X0_12 dX0_placeAtFirst_24 (bget0 rfl) rfl ?_
    refine r_getf (pc := 27) fl_X0_112 dX0_placeAtFirst_27 (bget rfl) rfl ?_
    refine r_iload1 (pc := 30) dX0_placeAtFirst_30 ?_
    refine n_iconst_2 (pc := 31) dX0_placeAtFirst_31 ?_
    refine r_iload1 (pc := 32) dX0_placeAtFirst_32 ?_
    first | refine n_imul (pc := 33) dX0_placeAtFirst_33 ?_ | refine z_imul (pc := 33) dX0_placeAtFirst_33 ?_ | refine r_imul (pc := 33) dX0_placeAtFirst_33 ?_
    refine n_iconst_1 (pc := 34) dX0_placeAtFirst_34 ?_
    first | refine n_iadd (pc := 35) dX0_placeAtFirst_35 ?_ | refine z_iadd (pc := 35) dX0_placeAtFirst_35 ?_ | refine r_iadd (pc := 35) dX0_placeAtFirst_35 ?_
    refine r_callN3v (pc := 36) lk_X0_85 dX0_placeAtFirst_36 (s_putB (j := 4) (by decide) rfl (fun _ => rfl) (by omega) (by decide)) (by decide) (Nat.le_of_ble_eq_true rfl) ⟨Nat.zero_le _, Nat.zero_le _⟩ ?_
    refine r_goto (pc := 39) 85 (by decide) dX0_placeAtFirst_39 ?_
    exact r_return (pc := 85) false rfl rfl dX0_placeAtFirst_85 (Nat.zero_le _) (Nat.zero_le _) (Or.inl rfl) rfl rfl
set_option maxRecDepth 20000 in
theorem s_start {n m : Nat} (h1 : 2 ≤ n) (h2 : n ≤ 6) (h3 : 1 ≤ m) (h4 : m ≤ 2) : SpecP mX0_start 3 0 0 [.ref b, .int (nI n), .int (nI m)] (bset M b S) (tB none M b (startZ n m)) := by
  have hZ := startZ_ok h1 h2 h3 h4
  have hd := hZ.dims
  refine Spec_of [some (.ref b), some (.int (nI n)), some (.int (nI m)), none] (by decide) (Nat.le_of_ble_eq_true rfl) rfl ?_
  refine r_aload0 (pc := 0) dX0_start_0 ?_
  refine r_getf (pc := 1) fl_X0_12 dX0_start_1 (bget0 rfl) rfl ?_
  refine r_iload1 (pc := 4) dX0_start_4 ?_
  refine r_putfI (pc := 5) fl_X0_47 dX0_start_5 (bget rfl) (Nat.le_of_ble_eq_true rfl) ?_
  refine G_M bii_X5_0 ?_
  refine r_aload0 (pc := 8) dX0_start_8 ?_
  refine r_getf (pc := 9) fl_X0_12 dX0_start_9 (bget0 rfl) rfl ?_
  refine r_iload2 (pc := 12) dX0_start_12 ?_
  refine r_putfI (pc := 13) fl_X0_51 dX0_start_13 (bget rfl) (Nat.le_of_ble_eq_true rfl) ?_
  refine G_M bii_X5_1 ?_
  refine r_aload0 (pc := 16) dX0_start_16 ?_
  refine r_getf (pc := 17) fl_X0_12 dX0_start_17 (bget0 rfl) rfl ?_
  refine n_iconst_0 (pc := 20) dX0_start_20 ?_
  refine r_putfI (pc := 21) fl_X0_54 dX0_start_21 (bget rfl) (Nat.le_of_ble_eq_true rfl) ?_
  refine G_M bii_X5_2 ?_
  refine r_aload0 (pc := 24) dX0_start_24 ?_
  refine r_getf (pc := 25) fl_X0_12 dX0_start_25 (bget0 rfl) rfl ?_
  refine r_getf (pc := 28) fl_X0_57 dX0_start_28 (bget rfl) rfl ?_
  refine n_iconst_0 (pc := 31) dX0_start_31 ?_
  refine r_callS2v (pc := 32) lk_X0_60 dX0_start_32 (s_fillB (j := 2) (by decide) rfl (fun _ => rfl) (by decide)) (by decide) (Nat.le_of_ble_eq_true rfl) ⟨Nat.zero_le _, Nat.zero_le _⟩ ?_
  refine r_aload0 (pc := 35) dX0_start_35 ?_
  refine r_getf (pc := 36) fl_X0_12 dX0_start_36 (bget0 rfl) rfl ?_
  refine r_getf (pc := 39) fl_X0_66 dX0_start_39 (bget rfl) rfl ?_
  refine n_iconst_0 (pc := 42) dX0_start_42 ?_
  refine r_callS2v (pc := 43) lk_X0_60 dX0_start_43 (s_fillB (j := 6) (by decide) rfl (fun _ => rfl) (by decide)) (by decide) (Nat.le_of_ble_eq_true rfl) ⟨Nat.zero_le _, Nat.zero_le _⟩ ?_
  refine r_aload0 (pc := 46) dX0_start_46 ?_
  refine r_getf (pc := 47) fl_X0_12 dX0_start_47 (bget0 rfl) rfl ?_
  refine r_getf (pc := 50) fl_X0_69 dX0_start_50 (bget rfl) rfl ?_
  refine n_iconst_0 (pc := 53) dX0_start_53 ?_
  refine r_callS2v (pc := 54) lk_X0_60 dX0_start_54 (s_fillB (j := 7) (by decide) rfl (fun _ => rfl) (by decide)) (by decide) (Nat.le_of_ble_eq_true rfl) ⟨Nat.zero_le _, Nat.zero_le _⟩ ?_
  refine r_aload0 (pc := 57) dX0_start_57 ?_
  refine r_callV0w (pc := 58) lk_X0_72 dX0_start_58 (bget0 rfl) (s_measure (n := n) (m := m) rfl rfl h1 h2 h3 h4)  (by decide) (Nat.le_of_ble_eq_true rfl) ⟨Nat.zero_le _, Nat.zero_le _⟩ (fun M9 h9 => ?_)
  obtain ⟨S2, hM, hR, hF, rfl⟩ := h9
  have g0 : ∀ j, j < 112 → S2.2 2 j = nI 0 := fun j hj => by rw [hF.1 2 (by omega)]; exact if_pos hj
  have g1 : ∀ j, j < 56 → S2.2 6 j = nI 0 := fun j hj => by rw [hF.1 6 (by omega)]; exact if_pos hj
  have g2 : ∀ j, j < 56 → S2.2 7 j = nI 0 := fun j hj => by rw [hF.1 7 (by omega)]; exact if_pos hj
  have g3 : S2.1 6 = nI 0 := hF.2 6 (by decide)
  refine n_iconst_0 (pc := 61) dX0_start_61 ?_
  refine r_istore3 (pc := 62) dX0_start_62 rfl ?_
  refine up_to (N := zt (startZ n m)) (k := 0) (fun i => ∀ S, MS S n m → RW S n (m * tT n) → S.1 6 = nI 0 → (∀ j, j < 112 → S.2 2 j = nI 0) → (∀ j, j < 56 → S.2 6 j = nI 0) → (∀ j, j < 56 → S.2 7 j = nI 0) → (∀ k, k < i → S.2 3 k = nI (stF n k) ∧ S.2 4 k = nI (stO n k) ∧ S.2 5 k = nI k) →
    G mX0_start 3 (.inl false) 0 0 (tB none M b (startZ n m)) none 0 0 63 [some (.ref b), some (.int (nI n)), some (.int (nI m)), some (.int (nI i))] [] (bset M b S)
    ) (fun S hM hR g3 g0 g1 g2 hr => ?_) (fun i hi ih S hM hR g3 g0 g1 g2 hr => ?_) (Nat.zero_le _) S2 hM hR g3 g0 g1 g2 (fun k hk => absurd hk (by omega))
  · have hW : InvW S (startZ n m) := by
      have hz : zt (startZ n m) = m * tT n := zt_tT h1 h2 h4
      rw [← hz] at hR
      exact ⟨⟨hM.1, hM.2.1, hM.2.2.1, hM.2.2.2.1, hM.2.2.2.2.1, hM.2.2.2.2.2, g3⟩, fun s hs => g0 s (by omega), fun k hk => (hr k hk).1, fun k hk => (hr k hk).2.1, fun k hk => (hr k hk).2.2, fun k hk => g1 k (by omega), fun k hk => g2 k (by omega), fun t ht => (hR t ht).1, fun t ht => (hR t ht).2.1, fun t ht => (hR t ht).2.2.1, fun t ht => (hR t ht).2.2.2⟩
    have hc3 : S.1 3 = nI (zt (startZ n m)) := hM.2.2.2.1
    refine r_iload3 (pc := 63) dX0_start_63 ?_
    refine r_aload0 (pc := 64) dX0_start_64 ?_
    refine r_getf (pc := 65) fl_X0_75 dX0_start_65 (bget0 rfl) rfl ?_
    rw [hc3]
    refine n_icmp_ge (pc := 68) 94 (by decide) dX0_start_68 (by omega) (by omega) (fun hc68 => ?_) (fun hc68 => absurd hc68 (by omega))
    refine r_aload0 (pc := 94) dX0_start_94 ?_
    refine r_callV0w (pc := 95) lk_X0_89 dX0_start_95 (bget0 rfl) (s_markPlaces hW hZ)  (by decide) (Nat.le_of_ble_eq_true rfl) ⟨Nat.zero_le _, Nat.zero_le _⟩ (fun M9 h9 => ?_)
    obtain ⟨S3, hI3, rfl⟩ := h9
    exact p_return (pc := 98) false rfl rfl dX0_start_98 (Nat.zero_le _) (Nat.zero_le _) (Or.inl rfl) ⟨rfl, S3, hI3, rfl⟩
  · have hc3 : S.1 3 = nI (zt (startZ n m)) := hM.2.2.2.1
    have ho : stO n i < 112 := by have := hZ.fo hi; exact Nat.lt_of_lt_of_le this.2.1 hd.2.2.2.2.1
    refine r_iload3 (pc := 63) dX0_start_63 ?_
    refine r_aload0 (pc := 64) dX0_start_64 ?_
    refine r_getf (pc := 65) fl_X0_75 dX0_start_65 (bget0 rfl) rfl ?_
    rw [hc3]
    refine n_icmp_ge (pc := 68) 94 (by decide) dX0_start_68 (by omega) (by omega) (fun hc68 => absurd hc68 (by omega)) (fun hc68 => ?_)
    refine r_aload0 (pc := 71) dX0_start_71 ?_
    refine r_iload3 (pc := 72) dX0_start_72 ?_
    refine r_callV1v (pc := 73) lk_X0_78 dX0_start_73 (bget0 rfl) (s_placeAtFirst hM.1 h2 (by omega) ho) (by decide) (Nat.le_of_ble_eq_true rfl) ⟨Nat.zero_le _, Nat.zero_le _⟩ ?_
    refine r_aload0 (pc := 76) dX0_start_76 ?_
    refine r_getf (pc := 77) fl_X0_12 dX0_start_77 (bget0 rfl) rfl ?_
    refine r_getf (pc := 80) fl_X0_82 dX0_start_80 (bget rfl) rfl ?_
    refine r_iload3 (pc := 83) dX0_start_83 ?_
    refine r_iload3 (pc := 84) dX0_start_84 ?_
    refine r_callN3v (pc := 85) lk_X0_85 dX0_start_85 (s_putB (j := 5) (by decide) rfl (fun _ => rfl) (by omega) (by decide)) (by decide) (Nat.le_of_ble_eq_true rfl) ⟨Nat.zero_le _, Nat.zero_le _⟩ ?_
    refine n_iinc3 (pc := 88) dX0_start_88 rfl ?_
    refine r_goto (pc := 91) 63 (by decide) dX0_start_91 ?_
    refine ih _ hM hR g3 g0 g1 g2 (fun k hk => ?_)
    show upd (S.2 3) i (nI (stF n i)) k = _ ∧ upd (S.2 4) i (nI (stO n i)) k = _ ∧ upd (S.2 5) i (nI i) k = _
    by_cases e : k = i
    · subst e; rw [upd_same, upd_same, upd_same]; exact ⟨rfl, rfl, rfl⟩
    · rw [upd_ne e, upd_ne e, upd_ne e]; exact hr k (by omega)
end START2

/-- whether a place begins at the square s, at first -/
def bgn (n s : Nat) : Bool := if (n + 2) % 2 = 0 then decide (s % 2 = 0) else decide (s / (n + 2) % 2 = 0)
def ckS (n m s : Nat) : Bool := bgn n s == fsq (startZ n m) s
theorem ckS_all : nms.all (fun q => (List.range (q0 q.1 q.2)).all (fun s => ckS q.1 q.2 s)) = true := by decide +kernel
theorem bgn_eq {n m s : Nat} (h1 : 2 ≤ n) (h2 : n ≤ 6) (h3 : 1 ≤ m) (h4 : m ≤ 2) (hs : s < q0 n m) : bgn n s = fsq (startZ n m) s := by
  have h := List.all_eq_true.mp (List.all_eq_true.mp ckS_all _ (nms_in h1 h2 h3 h4)) s (List.mem_range.mpr hs)
  simpa [ckS] using h
def cpR (f g : Nat → Int32) (i0 i1 n : Nat) : Nat → Int32 := fun j => if i1 ≤ j ∧ j < i1 + n then f (i0 + (j - i1)) else g j
theorem cpR_in {f g : Nat → Int32} {i0 i1 n j : Nat} (h : j < n) : cpR f g i0 i1 n (i1 + j) = f (i0 + j) := by
  unfold cpR
  rw [if_pos ⟨Nat.le_add_right _ _, Nat.add_lt_add_left h _⟩, Nat.add_sub_cancel_left]
theorem cpR_out {f g : Nat → Int32} {i0 i1 n j : Nat} (h : ¬ (i1 ≤ j ∧ j < i1 + n)) : cpR f g i0 i1 n j = g j := by
  unfold cpR
  rw [if_neg h]
section RSTART
variable {M : Mem} {a : Nat} {f : Nat → Int32}
set_option maxRecDepth 20000 in
theorem s8_start {n m : Nat} (h1 : 2 ≤ n) (h2 : n ≤ 6) (h3 : 1 ≤ m) (h4 : m ≤ 2) : SpecP mX8_start 3 0 0 [.ref a, .int (nI n), .int (nI m)] (rset M a f) (tR none M a (startZ n m)) := by
  have hZ := startZ_ok h1 h2 h3 h4
  have hd := hZ.dims
  have hzq : zq (startZ n m) = q0 n m := rfl
  have hzn : zn (startZ n m) = n := rfl
  refine Spec_of [some (.ref a), some (.int (nI n)), some (.int (nI m)), none, none, none, none] (by decide) (Nat.le_of_ble_eq_true rfl) rfl ?_
  refine n_iconst_0 (pc := 0) dX8_start_0 ?_
  refine r_istore3 (pc := 1) dX8_start_1 rfl ?_
  refine up_to (N := 563) (k := 0) (fun i => ∀ f, (∀ j, j < i → f j = nI 0) →
    G mX8_start 3 (.inl false) 0 0 (tR none M a (startZ n m)) none 0 0 2 [some (.ref a), some (.int (nI n)), some (.int (nI m)), some (.int (nI i)), none, none, none] [] (rset M a f)
    ) (fun f hf => ?_) (fun i hi ih f hf => ?_) (Nat.zero_le _) f (fun j hj => absurd hj (Nat.not_lt_zero _))
  · refine r_iload3 (pc := 2) dX8_start_2 ?_
    refine n_sipush (pc := 3) 563 (by decide) dX8_start_3 ?_
    refine n_icmp_ge (pc := 6) 19 (by decide) dX8_start_6 (by omega) (by omega) (fun hc6 => ?_) (fun hc6 => absurd hc6 (by omega))
    refine r_aload0 (pc := 19) dX8_start_19 ?_
    refine n_iconst_0 (pc := 20) dX8_start_20 ?_
    refine r_iload1 (pc := 21) dX8_start_21 ?_
    refine n_iast (pc := 22) dX8_start_22 mset_same (by decide) (by decide) ?_
    refine G_M mset_mset ?_
    refine r_aload0 (pc := 23) dX8_start_23 ?_
    refine n_iconst_1 (pc := 24) dX8_start_24 ?_
    refine r_iload2 (pc := 25) dX8_start_25 ?_
    refine n_iast (pc := 26) dX8_start_26 mset_same (by decide) (by decide) ?_
    refine G_M mset_mset ?_
    refine r_iload1 (pc := 27) dX8_start_27 ?_
    refine n_iconst_2 (pc := 28) dX8_start_28 ?_
    first | refine n_iadd (pc := 29) dX8_start_29 ?_ | refine z_iadd (pc := 29) dX8_start_29 ?_ | refine r_iadd (pc := 29) dX8_start_29 ?_
    refine r_istore3 (pc := 30) dX8_start_30 rfl ?_
    refine n_iconst_0 (pc := 31) dX8_start_31 ?_
    refine r_istore4 (pc := 32) dX8_start_32 rfl ?_
    refine n_iconst_0 (pc := 34) dX8_start_34 ?_
    refine r_istore5 (pc := 35) dX8_start_35 rfl ?_
    refine up_to (N := zq (startZ n m)) (k := 0) (fun s => ∀ f a6, InvG f (startZ n m) → f 2 = nI 0 →
      (∀ x, x < zq (startZ n m) → f (115 + x) = if x < s ∧ bgn n x = true then nI (if n % 2 = 0 then 1 else 2) else nI 0) → (∀ k, k < cnt (startZ n m) s → f (227 + zF (startZ n m) k) = nI k) → (∀ x, x < 112 → f (339 + x) = nI 0 ∧ f (451 + x) = nI 0) →
      G mX8_start 3 (.inl false) 0 0 (tR none M a (startZ n m)) none 0 0 37 [some (.ref a), some (.int (nI n)), some (.int (nI m)), some (.int (nI (n + 2))), some (.int (nI (cnt (startZ n m) s))), some (.int (nI s)), a6] [] (rset M a f)
      ) (fun f a6 hG h2f hL hT hU => ?_) (fun s hs ih f a6 hG h2f hL hT hU => ?_) (Nat.zero_le _) _ none ?_ ?_ ?_ ?_ ?_
    · refine r_iload5 (pc := 37) dX8_start_37 ?_
      refine r_aload0 (pc := 39) dX8_start_39 ?_
      refine r_callS1i (pc := 40) lk_X8_47 dX8_start_40 (g8_squares mset_same hG) (by decide) (Nat.le_of_ble_eq_true rfl) ⟨Nat.zero_le _, Nat.zero_le _⟩ ?_
      refine n_icmp_ge (pc := 43) 125 (by decide) dX8_start_43 (by omega) (by omega) (fun hc43 => ?_) (fun hc43 => absurd hc43 (by omega))
      refine p_return (pc := 125) false rfl rfl dX8_start_125 (Nat.zero_le _) (Nat.zero_le _) (Or.inl rfl) ⟨rfl, f, ⟨⟨hG.n, hG.s, h2f⟩, hG.2, fun k hk => ?_, fun s hs hn => ?_⟩, rfl⟩
      · have hq := hZ.fq hk
        have hb1 : bgn n (zF (startZ n m) k) = true := by rw [bgn_eq h1 h2 h3 h4 (by omega)]; exact fsq_y hk
        refine ⟨?_, hT k (by rw [cnt_end hZ]; exact hk), (hU _ (by omega)).1, (hU _ (by omega)).2⟩
        rw [hL _ hq, if_pos ⟨hq, hb1⟩]
        congr 1
        have ea : al (startZ n m) k = decide (n % 2 = 0) := by
          show decide (stO n k = stF n k + 1) = _
          unfold stO stF
          by_cases e : n % 2 = 0
          · rw [if_pos e, if_pos e, decide_eq_true e]; simp
          · rw [if_neg e, if_neg e, decide_eq_false e]; simp
        unfold lz
        rw [ea]
        by_cases e : n % 2 = 0
        · rw [if_pos e, decide_eq_true e]; rfl
        · rw [if_neg e, decide_eq_false e]; rfl
      · have hb1 : bgn n s = false := by rw [bgn_eq h1 h2 h3 h4 (by omega)]; exact fsq_n hn
        rw [hL _ hs, if_neg (fun q => by rw [hb1] at q; cases q.2)]
    · have step : ∀ (v : Bool), v = bgn n s →
        G mX8_start 3 (.inl false) 0 0 (tR none M a (startZ n m)) none 0 0 81 [some (.ref a), some (.int (nI n)), some (.int (nI m)), some (.int (nI (n + 2))), some (.int (nI (cnt (startZ n m) s))), some (.int (nI s)), none] [.int (bI v)] (rset M a f)
        := by
        intro v hv
        have hbe := bgn_eq h1 h2 h3 h4 (show s < q0 n m from hs)
        have c0 : cnt (startZ n m) (s + 1) = cnt (startZ n m) s + (if fsq (startZ n m) s then 1 else 0) := rfl
        rw [← hbe, ← hv] at c0
        cases v with
        | false =>
          have c0 : cnt (startZ n m) (s + 1) = cnt (startZ n m) s := c0
          rw [c0] at ih
          refine r_istore6 (pc := 81) dX8_start_81 rfl ?_
          refine r_iload6 (pc := 83) dX8_start_83 ?_
          refine b_if_eq (b := false) (pc := 85) 119 (by decide) dX8_start_85 (fun _ => ?_) (fun h9 => by cases h9)
          refine n_iinc5 (pc := 119) dX8_start_119 rfl ?_
          refine r_goto (pc := 122) 37 (by decide) dX8_start_122 ?_
          refine ih f _ hG h2f (fun x hx => ?_) hT hU
          rw [hL x hx]
          by_cases e : x = s
          · rw [if_neg (fun q => by omega), if_neg (fun q => by rw [e, ← hv] at q; cases q.2)]
          · by_cases e2 : x < s
            · by_cases e3 : bgn n x = true
              · rw [if_pos ⟨e2, e3⟩, if_pos (show x < s + 1 ∧ bgn n x = true from ⟨by omega, e3⟩)]
              · rw [if_neg (fun q => e3 q.2), if_neg (fun q => e3 q.2)]
            · rw [if_neg (fun q => e2 q.1), if_neg (fun q => by omega)]
        | true =>
          have c0 : cnt (startZ n m) (s + 1) = cnt (startZ n m) s + 1 := c0
          rw [c0] at ih
          obtain ⟨k, hk, ek⟩ := fsq_ex (z := startZ n m) (s := s) (by rw [← hbe, ← hv])
          have ck : cnt (startZ n m) s = k := by rw [← ek]; exact cnt_first hZ hk
          have put2 : ∀ w, w = (if n % 2 = 0 then 1 else 2) →
            G mX8_start 3 (.inl false) 0 0 (tR none M a (startZ n m)) none 0 0 105 [some (.ref a), some (.int (nI n)), some (.int (nI m)), some (.int (nI (n + 2))), some (.int (nI (cnt (startZ n m) s))), some (.int (nI s)), some (.int (bI true))] [.int (nI w), .int (nI (115 + s)), .ref a] (rset M a f)
            := by
            intro w hw
            refine n_iast (pc := 105) dX8_start_105 mset_same (by omega) (by decide) ?_
            refine G_M mset_mset ?_
            refine r_aload0 (pc := 106) dX8_start_106 ?_
            refine n_sipush (pc := 107) 227 (by decide) dX8_start_107 ?_
            refine r_iload5 (pc := 110) dX8_start_110 ?_
            first | refine n_iadd (pc := 112) dX8_start_112 ?_ | refine z_iadd (pc := 112) dX8_start_112 ?_ | refine r_iadd (pc := 112) dX8_start_112 ?_
            refine r_iload4 (pc := 113) dX8_start_113 ?_
            refine n_iast (pc := 115) dX8_start_115 mset_same (by omega) (by decide) ?_
            refine G_M mset_mset ?_
            refine n_iinc4 (pc := 116) dX8_start_116 rfl ?_
            refine n_iinc5 (pc := 119) dX8_start_119 rfl ?_
            refine r_goto (pc := 122) 37 (by decide) dX8_start_122 ?_
            refine ih _ _ ((hG.upd hZ (by omega)).upd hZ (by omega)) (by rw [upd_ne (by omega), upd_ne (by omega)]; exact h2f) (fun x hx => ?_) (fun j hj => ?_) (fun x hx => ?_)
            · rw [upd_ne (by omega)]
              by_cases e : x = s
              · rw [e, upd_same, if_pos ⟨Nat.lt_succ_self _, hv.symm⟩, hw]
              · rw [upd_ne (by omega), hL x hx]
                by_cases e2 : x < s
                · by_cases e3 : bgn n x = true
                  · rw [if_pos ⟨e2, e3⟩, if_pos (show x < s + 1 ∧ bgn n x = true from ⟨by omega, e3⟩)]
                  · rw [if_neg (fun q => e3 q.2), if_neg (fun q => e3 q.2)]
                · rw [if_neg (fun q => e2 q.1), if_neg (fun q => by omega)]
            · have hjt : j < zt (startZ n m) := by omega
              have hqj := hZ.fq hjt
              by_cases e : j = k
              · rw [e, ek, upd_same, ck]
              · have hjk : zF (startZ n m) j ≠ s := fun q => e (hZ.finj hjt hk (by rw [q, ek]))
                rw [upd_ne (by omega), upd_ne (by omega)]
                exact hT j (by omega)
            · rw [upd_ne (by omega), upd_ne (by omega), upd_ne (by omega), upd_ne (by omega)]
              exact hU x hx
          refine r_istore6 (pc := 81) dX8_start_81 rfl ?_
          refine r_iload6 (pc := 83) dX8_start_83 ?_
          refine b_if_eq (b := true) (pc := 85) 119 (by decide) dX8_start_85 (fun h9 => by cases h9) (fun _ => ?_)
          refine r_aload0 (pc := 88) dX8_start_88 ?_
          refine n_bipush (pc := 89) 115 (by decide) dX8_start_89 ?_
          refine r_iload5 (pc := 91) dX8_start_91 ?_
          first | refine n_iadd (pc := 93) dX8_start_93 ?_ | refine z_iadd (pc := 93) dX8_start_93 ?_ | refine r_iadd (pc := 93) dX8_start_93 ?_
          refine r_iload3 (pc := 94) dX8_start_94 ?_
          refine n_iconst_2 (pc := 95) dX8_start_95 ?_
          refine n_irem (pc := 96) dX8_start_96 (by omega) (by omega) (by omega) ?_
          refine n_if_ne (pc := 97) 104 (by decide) dX8_start_97 (by omega) (fun h9 => ?_) (fun h9 => ?_)
          · refine n_iconst_2 (pc := 104) dX8_start_104 ?_
            exact put2 2 (by rw [if_neg (by omega)])
          · refine n_iconst_1 (pc := 100) dX8_start_100 ?_
            refine r_goto (pc := 101) 105 (by decide) dX8_start_101 ?_
            exact put2 1 (by rw [if_pos (by omega)])
      have hdv : s / (n + 2) ≤ s := Nat.div_le_self _ _
      refine G_fgt 6 ?_
      refine r_iload5 (pc := 37) dX8_start_37 ?_
      refine r_aload0 (pc := 39) dX8_start_39 ?_
      refine r_callS1i (pc := 40) lk_X8_47 dX8_start_40 (g8_squares mset_same hG) (by decide) (Nat.le_of_ble_eq_true rfl) ⟨Nat.zero_le _, Nat.zero_le _⟩ ?_
      refine n_icmp_ge (pc := 43) 125 (by decide) dX8_start_43 (by omega) (by omega) (fun hc43 => absurd hc43 (by omega)) (fun hc43 => ?_)
      refine r_iload3 (pc := 46) dX8_start_46 ?_
      refine n_iconst_2 (pc := 47) dX8_start_47 ?_
      refine n_irem (pc := 48) dX8_start_48 (by omega) (by omega) (by omega) ?_
      refine n_if_ne (pc := 49) 67 (by decide) dX8_start_49 (by omega) (fun h9 => ?_) (fun h9 => ?_)
      · have eb : bgn n s = decide (s / (n + 2) % 2 = 0) := if_neg h9
        refine r_iload5 (pc := 67) dX8_start_67 ?_
        refine r_iload3 (pc := 69) dX8_start_69 ?_
        refine n_idiv (pc := 70) dX8_start_70 (by omega) (by omega) (by omega) ?_
        refine n_iconst_2 (pc := 71) dX8_start_71 ?_
        refine n_irem (pc := 72) dX8_start_72 (by omega) (by omega) (by omega) ?_
        refine n_if_ne (pc := 73) 80 (by decide) dX8_start_73 (by omega) (fun h8 => ?_) (fun h8 => ?_)
        · refine n_iconst_0 (pc := 80) dX8_start_80 ?_
          exact step false (by rw [eb]; exact (decide_eq_false h8).symm)
        · refine n_iconst_1 (pc := 76) dX8_start_76 ?_
          refine r_goto (pc := 77) 81 (by decide) dX8_start_77 ?_
          exact step true (by rw [eb]; exact (decide_eq_true h8).symm)
      · have eb : bgn n s = decide (s % 2 = 0) := if_pos h9
        refine r_iload5 (pc := 52) dX8_start_52 ?_
        refine n_iconst_2 (pc := 54) dX8_start_54 ?_
        refine n_irem (pc := 55) dX8_start_55 (by omega) (by omega) (by omega) ?_
        refine n_if_ne (pc := 56) 63 (by decide) dX8_start_56 (by omega) (fun h8 => ?_) (fun h8 => ?_)
        · refine n_iconst_0 (pc := 63) dX8_start_63 ?_
          refine r_goto (pc := 64) 81 (by decide) dX8_start_64 ?_
          exact step false (by rw [eb]; exact (decide_eq_false h8).symm)
        · refine n_iconst_1 (pc := 59) dX8_start_59 ?_
          refine r_goto (pc := 60) 81 (by decide) dX8_start_60 ?_
          exact step true (by rw [eb]; exact (decide_eq_true h8).symm)
    · refine ⟨⟨by rw [upd_ne (by omega), upd_same]; rfl, by rw [upd_same]; rfl⟩, fun s hs => ?_⟩
      rw [upd_ne (by omega), upd_ne (by omega), hf _ (by omega)]; rfl
    · rw [upd_ne (by omega), upd_ne (by omega)]; exact hf _ (by omega)
    · intro x hx
      rw [upd_ne (by omega), upd_ne (by omega), hf _ (by omega), if_neg (fun q => absurd q.1 (Nat.not_lt_zero _))]
    · intro k hk; exact absurd hk (Nat.not_lt_zero _)
    · intro x hx
      rw [upd_ne (by omega), upd_ne (by omega), upd_ne (by omega), upd_ne (by omega)]
      exact ⟨hf _ (by omega), hf _ (by omega)⟩
  · refine r_iload3 (pc := 2) dX8_start_2 ?_
    refine n_sipush (pc := 3) 563 (by decide) dX8_start_3 ?_
    refine n_icmp_ge (pc := 6) 19 (by decide) dX8_start_6 (by omega) (by omega) (fun hc6 => absurd hc6 (by omega)) (fun hc6 => ?_)
    refine r_aload0 (pc := 9) dX8_start_9 ?_
    refine r_iload3 (pc := 10) dX8_start_10 ?_
    refine n_iconst_0 (pc := 11) dX8_start_11 ?_
    refine n_iast (pc := 12) dX8_start_12 mset_same hi (by decide) ?_
    refine G_M mset_mset ?_
    refine n_iinc3 (pc := 13) dX8_start_13 rfl ?_
    refine r_goto (pc := 16) 2 (by decide) dX8_start_16 ?_
    refine ih _ (fun j hj => ?_)
    by_cases e : j = i
    · rw [e, upd_same]
    · rw [upd_ne e]; exact hf j (by omega)
theorem s8_copyState {c n0 n1 i0 i1 : Nat} {g : Nat → Int32} (hac : a ≠ c) (hM : M a = some (cI n0 f)) (hMc : M c = some (cI n1 g)) (h0 : i0 + 563 ≤ n0) (h1 : i1 + 563 ≤ n1) (hn0 : n0 < 2147483648) (hn1 : n1 < 2147483648) : Spec mX8_copyState 1 0 0 [.ref a, .int (nI i0), .ref c, .int (nI i1)] M none (mset M c (cI n1 (cpR f g i0 i1 563))) := by
  refine Spec_of [some (.ref a), some (.int (nI i0)), some (.ref c), some (.int (nI i1)), none] (by decide) (Nat.le_of_ble_eq_true rfl) rfl ?_
  refine n_iconst_0 (pc := 0) dX8_copyState_0 ?_
  refine r_istore4 (pc := 1) dX8_copyState_1 rfl ?_
  refine up_to (N := 563) (k := 0) (fun i => ∀ M1, M1 = mset M c (cI n1 (cpR f g i0 i1 i)) →
    G mX8_copyState 1 (.inl false) 0 0 (dT none (mset M c (cI n1 (cpR f g i0 i1 563)))) none 0 0 3 [some (.ref a), some (.int (nI i0)), some (.ref c), some (.int (nI i1)), some (.int (nI i))] [] M1
    ) (fun M1 e => ?_) (fun i hi ih M1 e => ?_) (Nat.zero_le _) M (by rw [show cpR f g i0 i1 0 = g from funext (fun j => cpR_out (by omega)), mset_self hMc])
  · refine r_iload4 (pc := 3) dX8_copyState_3 ?_
    refine n_sipush (pc := 5) 563 (by decide) dX8_copyState_5 ?_
    refine n_icmp_ge (pc := 8) 29 (by decide) dX8_copyState_8 (by omega) (by omega) (fun hc8 => ?_) (fun hc8 => absurd hc8 (by omega))
    exact r_return (pc := 29) false rfl rfl dX8_copyState_29 (Nat.zero_le _) (Nat.zero_le _) (Or.inl rfl) rfl e
  · subst e
    have hMa : mset M c (cI n1 (cpR f g i0 i1 i)) a = some (cI n0 f) := by rw [mset_ne hac]; exact hM
    refine r_iload4 (pc := 3) dX8_copyState_3 ?_
    refine n_sipush (pc := 5) 563 (by decide) dX8_copyState_5 ?_
    refine n_icmp_ge (pc := 8) 29 (by decide) dX8_copyState_8 (by omega) (by omega) (fun hc8 => absurd hc8 (by omega)) (fun hc8 => ?_)
    refine r_aload2 (pc := 11) dX8_copyState_11 ?_
    refine r_iload3 (pc := 12) dX8_copyState_12 ?_
    refine r_iload4 (pc := 13) dX8_copyState_13 ?_
    first | refine n_iadd (pc := 15) dX8_copyState_15 ?_ | refine z_iadd (pc := 15) dX8_copyState_15 ?_ | refine r_iadd (pc := 15) dX8_copyState_15 ?_
    refine r_aload0 (pc := 16) dX8_copyState_16 ?_
    refine r_iload1 (pc := 17) dX8_copyState_17 ?_
    refine r_iload4 (pc := 18) dX8_copyState_18 ?_
    first | refine n_iadd (pc := 20) dX8_copyState_20 ?_ | refine z_iadd (pc := 20) dX8_copyState_20 ?_ | refine r_iadd (pc := 20) dX8_copyState_20 ?_
    refine n_iald (pc := 21) dX8_copyState_21 hMa (by omega) (by omega) rfl ?_
    refine n_iast (pc := 22) dX8_copyState_22 mset_same (by omega) (by omega) ?_
    refine G_M mset_mset ?_
    refine n_iinc4 (pc := 23) dX8_copyState_23 rfl ?_
    refine r_goto (pc := 26) 3 (by decide) dX8_copyState_26 ?_
    refine ih _ ?_
    congr 2
    funext j
    by_cases e : j = i1 + i
    · rw [e, upd_same]
      exact (cpR_in (Nat.lt_succ_self i)).symm
    · rw [upd_ne e]
      unfold cpR
      by_cases q : i1 ≤ j ∧ j < i1 + i
      · rw [if_pos q, if_pos (by omega)]
      · rw [if_neg q, if_neg (by omega)]
end RSTART

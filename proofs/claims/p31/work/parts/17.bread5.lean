def plZ (z : ZS) (s : Nat) : Nat := ((List.range (zt z)).find? (fun k => decide (zF z k = s) || decide (zO z k = s))).getD 0
theorem ZOK.one {z : ZS} (h : ZOK z) {s i j : Nat} (hi : i < zt z) (hj : j < zt z) (ei : zF z i = s ∨ zO z i = s) (ej : zF z j = s ∨ zO z j = s) : i = j := by
  rcases ei with ei | ei <;> rcases ej with ej | ej
  · exact h.finj hi hj (by rw [ei, ej])
  · exact absurd (by rw [ei, ej]) (h.fno hi hj)
  · exact absurd (by rw [ei, ej]) (h.fno hj hi)
  · exact h.oinj hi hj (by rw [ei, ej])
theorem plZ_eq {z : ZS} (h : ZOK z) {s k : Nat} (hk : k < zt z) (e : zF z k = s ∨ zO z k = s) : plZ z s = k := by
  unfold plZ
  cases hq : (List.range (zt z)).find? (fun k => decide (zF z k = s) || decide (zO z k = s)) with
  | none =>
    have := List.find?_eq_none.mp hq k (List.mem_range.mpr hk)
    simp at this
    rcases e with e | e
    · exact absurd e this.1
    · exact absurd e this.2
  | some m =>
    have h1 := List.find?_some hq
    have h2 := List.mem_range.mp (List.mem_of_find?_eq_some hq)
    simp at h1
    exact h.one h2 hk h1 e
theorem plZ_spec {z : ZS} (h : ZOK z) {s : Nat} (hs : s < zq z) : plZ z s < zt z ∧ (zF z (plZ z s) = s ∨ zO z (plZ z s) = s) := by
  obtain ⟨k, hk, e⟩ := h.cov hs
  rw [plZ_eq h hk e]
  exact ⟨hk, e⟩
theorem InvB.PL {S : BS} {z : ZS} (h : InvB S z) (hZ : ZOK z) {s : Nat} (hs : s < zq z) : S.2 12 s = nI (plZ z s) := by
  obtain ⟨k, hk, e, h1⟩ := h.P hZ hs
  rw [h1, plZ_eq hZ hk e]
def pipZ (z : ZS) (s : Nat) : Nat := if decide (zF z (plZ z s) = s) = decide (zU z (plZ z s) ≠ 0) then phi (zn z) (zT z (plZ z s)) else plo (zn z) (zT z (plZ z s))
def blk (z : ZS) (s : Nat) : Option Nat := (List.range (zt z)).find? (fun k => decide (zF z k = s) && (part z k).isSome)
theorem blk_some {z : ZS} (h : ZOK z) {s k : Nat} : blk z s = some k ↔ k < zt z ∧ zF z k = s ∧ (part z k).isSome = true := by
  constructor
  · intro hb
    have h1 := List.find?_some hb
    have h2 := List.mem_range.mp (List.mem_of_find?_eq_some hb)
    simp only [Bool.and_eq_true, decide_eq_true_eq] at h1
    exact ⟨h2, h1⟩
  · rintro ⟨h1, h2, h3⟩
    refine find_first h1 (by simp [h2, h3]) (fun j hj => ?_)
    have := h.mono hj h1
    simp only [Bool.and_eq_false_iff, decide_eq_false_iff_not]
    exact Or.inl (by omega)
theorem blk_no {z : ZS} {s : Nat} (hn : ∀ k, k < zt z → zF z k = s → (part z k).isSome = false) : blk z s = none := by
  refine find_no (fun j hj => ?_)
  by_cases e : zF z j = s
  · simp [e, hn j hj e]
  · simp [e]
theorem inR_nI {k n : Nat} (hk : k < 2147483648) (hn : n < 2147483648) : inR (nI k) n = decide (k < n) := by
  by_cases h : k < n
  · rw [inR_y h hn]; simp [h]
  · rw [inR_ge ((nI_leN hn hk).mpr (by omega)) hn]; simp [h]
def posZ (z : ZS) (n : Nat) : Bool := if n < 10000 then decide (n < zt z) else if n < 20000 then decide (n % 10000 / 100 < n % 10000 % 100) && decide (n % 10000 % 100 < zt z) else (blk z (n % 10000)).isSome
def gnZ (z : ZS) (n : Nat) : Int := if n < 10000 then tgZ z n else if n < 20000 then sgZ z (n % 10000 / 100) (n % 10000 % 100) else match blk z (n % 10000) with
  | none => 0
  | some k => match part z k with
    | none => 0
    | some l => fgZ z k l
section BREAD5
variable {M : Mem} {b : Nat} {S : BS} {z : ZS}
set_option maxRecDepth 20000 in
theorem s_pipsOn (hI : InvB S z) (hZ : ZOK z) {s : Nat} (hs : s < zq z) : Spec mX0_pipsOn 2 0 0 [.ref b, .int (nI s)] (bset M b S) (some (.int (nI (pipZ z s)))) (bset M b S) := by
  have hd := hZ.dims
  obtain ⟨hk, he⟩ := plZ_spec hZ hs
  have hu := hZ.u hk
  have ht := hZ.t hk
  have hfq := hZ.fq hk
  refine Spec_of [some (.ref b), some (.int (nI s)), none, none, none, none] (by decide) (Nat.le_of_ble_eq_true rfl) rfl ?_
  have part2 : ∀ c1 : Bool, c1 = decide (zF z (plZ z s) = s) →
    G mX0_pipsOn 2 (.inl false) 0 0 (dT (some (.int (nI (pipZ z s)))) (bset M b S)) none 0 0 41 [some (.ref b), some (.int (nI s)), some (.int (nI (plZ z s))), some (.int (nI (zT z (plZ z s)))), none, none] [.int (bI c1)] (bset M b S)
    := by
    intro c1 e1
    have part3 : ∀ c2 : Bool, c2 = decide (zU z (plZ z s) ≠ 0) →
      G mX0_pipsOn 2 (.inl false) 0 0 (dT (some (.int (nI (pipZ z s)))) (bset M b S)) none 0 0 62 [some (.ref b), some (.int (nI s)), some (.int (nI (plZ z s))), some (.int (nI (zT z (plZ z s)))), some (.int (bI c1)), none] [.int (bI c2)] (bset M b S)
      := by
      intro c2 e2
      refine r_istore5 (pc := 62) dX0_pipsOn_62 rfl ?_
      refine r_iload4 (pc := 64) dX0_pipsOn_64 ?_
      refine r_iload5 (pc := 66) dX0_pipsOn_66 ?_
      refine r_icmp_ne (pc := 68) 82 (by decide) dX0_pipsOn_68 (fun h9 => ?_) (fun h9 => ?_)
      · refine r_aload0 (pc := 82) dX0_pipsOn_82 ?_
        refine r_getf (pc := 83) fl_X0_18 dX0_pipsOn_83 (bget0 rfl) rfl ?_
        refine r_iload3 (pc := 86) dX0_pipsOn_86 ?_
        refine r_callN2i (pc := 87) lk_X0_115 dX0_pipsOn_87 (s_at (bget rfl) (by omega) (by decide) (hI.lo ht)) (by decide) (Nat.le_of_ble_eq_true rfl) ⟨Nat.zero_le _, Nat.zero_le _⟩ ?_
        exact r_ireturn (pc := 90) false rfl rfl rfl dX0_pipsOn_90 (Nat.zero_le _) (Nat.zero_le _) (Or.inl rfl) rfl (by unfold pipZ; rw [if_neg (by rw [← e1, ← e2]; intro h8; exact h9 (by rw [h8]))]) rfl
      · refine r_aload0 (pc := 71) dX0_pipsOn_71 ?_
        refine r_getf (pc := 72) fl_X0_22 dX0_pipsOn_72 (bget0 rfl) rfl ?_
        refine r_iload3 (pc := 75) dX0_pipsOn_75 ?_
        refine r_callN2i (pc := 76) lk_X0_115 dX0_pipsOn_76 (s_at (bget rfl) (by omega) (by decide) (hI.hi ht)) (by decide) (Nat.le_of_ble_eq_true rfl) ⟨Nat.zero_le _, Nat.zero_le _⟩ ?_
        refine r_goto (pc := 79) 90 (by decide) dX0_pipsOn_79 ?_
        exact r_ireturn (pc := 90) false rfl rfl rfl dX0_pipsOn_90 (Nat.zero_le _) (Nat.zero_le _) (Or.inl rfl) rfl (by unfold pipZ; rw [if_pos (by rw [← e1, ← e2]; cases c1 <;> cases c2 <;> first | rfl | exact absurd h9 (by decide))]) rfl
    refine r_istore4 (pc := 41) dX0_pipsOn_41 rfl ?_
    refine r_aload0 (pc := 43) dX0_pipsOn_43 ?_
    refine r_getf (pc := 44) fl_X0_12 dX0_pipsOn_44 (bget0 rfl) rfl ?_
    refine r_getf (pc := 47) fl_X0_66 dX0_pipsOn_47 (bget rfl) rfl ?_
    refine r_iload2 (pc := 50) dX0_pipsOn_50 ?_
    refine r_callN2i (pc := 51) lk_X0_115 dX0_pipsOn_51 (s_at (bget rfl) (by omega) (by decide) (hI.U hk)) (by decide) (Nat.le_of_ble_eq_true rfl) ⟨Nat.zero_le _, Nat.zero_le _⟩ ?_
    refine n_if_eq (pc := 54) 61 (by decide) dX0_pipsOn_54 (by omega) (fun h9 => ?_) (fun h9 => ?_)
    · refine n_iconst_0 (pc := 61) dX0_pipsOn_61 ?_
      exact part3 false (by simp [h9])
    · refine n_iconst_1 (pc := 57) dX0_pipsOn_57 ?_
      refine r_goto (pc := 58) 62 (by decide) dX0_pipsOn_58 ?_
      exact part3 true (by simp [h9])
  refine r_aload0 (pc := 0) dX0_pipsOn_0 ?_
  refine r_getf (pc := 1) fl_X0_31 dX0_pipsOn_1 (bget0 rfl) rfl ?_
  refine r_iload1 (pc := 4) dX0_pipsOn_4 ?_
  refine r_callN2i (pc := 5) lk_X0_115 dX0_pipsOn_5 (s_at (bget rfl) (by omega) (by decide) (hI.PL hZ hs)) (by decide) (Nat.le_of_ble_eq_true rfl) ⟨Nat.zero_le _, Nat.zero_le _⟩ ?_
  refine r_istore2 (pc := 8) dX0_pipsOn_8 rfl ?_
  refine r_aload0 (pc := 9) dX0_pipsOn_9 ?_
  refine r_getf (pc := 10) fl_X0_12 dX0_pipsOn_10 (bget0 rfl) rfl ?_
  refine r_getf (pc := 13) fl_X0_82 dX0_pipsOn_13 (bget rfl) rfl ?_
  refine r_iload2 (pc := 16) dX0_pipsOn_16 ?_
  refine r_callN2i (pc := 17) lk_X0_115 dX0_pipsOn_17 (s_at (bget rfl) (by omega) (by decide) (hI.T hk)) (by decide) (Nat.le_of_ble_eq_true rfl) ⟨Nat.zero_le _, Nat.zero_le _⟩ ?_
  refine r_istore3 (pc := 20) dX0_pipsOn_20 rfl ?_
  refine r_aload0 (pc := 21) dX0_pipsOn_21 ?_
  refine r_getf (pc := 22) fl_X0_12 dX0_pipsOn_22 (bget0 rfl) rfl ?_
  refine r_getf (pc := 25) fl_X0_109 dX0_pipsOn_25 (bget rfl) rfl ?_
  refine r_iload2 (pc := 28) dX0_pipsOn_28 ?_
  refine r_callN2i (pc := 29) lk_X0_115 dX0_pipsOn_29 (s_at (bget rfl) (by omega) (by decide) (hI.F hk)) (by decide) (Nat.le_of_ble_eq_true rfl) ⟨Nat.zero_le _, Nat.zero_le _⟩ ?_
  refine r_iload1 (pc := 32) dX0_pipsOn_32 ?_
  refine n_icmp_ne (pc := 33) 40 (by decide) dX0_pipsOn_33 (by omega) (by omega) (fun h9 => ?_) (fun h9 => ?_)
  · refine n_iconst_0 (pc := 40) dX0_pipsOn_40 ?_
    exact part2 false (by simp [h9])
  · refine n_iconst_1 (pc := 36) dX0_pipsOn_36 ?_
    refine r_goto (pc := 37) 41 (by decide) dX0_pipsOn_37 ?_
    exact part2 true (by simp [h9])
set_option maxRecDepth 20000 in
theorem s_blockAt (hI : InvB S z) (hZ : ZOK z) {s : Nat} (hs : s < 2147483648) : Spec mX0_blockAt 4 0 0 [.ref b, .int (nI s)] (bset M b S) (some (.int (oI (blk z s)))) (bset M b S) := by
  have hd := hZ.dims
  refine Spec_of [some (.ref b), some (.int (nI s)), none] (by decide) (Nat.le_of_ble_eq_true rfl) rfl ?_
  refine r_iload1 (pc := 0) dX0_blockAt_0 ?_
  refine n_if_lt (pc := 1) 12 (by decide) dX0_blockAt_1 (by omega) ?_
  refine r_iload1 (pc := 4) dX0_blockAt_4 ?_
  refine r_aload0 (pc := 5) dX0_blockAt_5 ?_
  refine r_getf (pc := 6) fl_X0_102 dX0_blockAt_6 (bget0 rfl) rfl ?_
  rw [hI.c2]
  refine n_icmp_lt (pc := 9) 14 (by decide) dX0_blockAt_9 (by omega) (by omega) (fun hlt => ?_) (fun hge => ?_)
  · obtain ⟨hk, he⟩ := plZ_spec hZ hlt
    have hfq := hZ.fq hk
    refine r_aload0 (pc := 14) dX0_blockAt_14 ?_
    refine r_getf (pc := 15) fl_X0_31 dX0_blockAt_15 (bget0 rfl) rfl ?_
    refine r_iload1 (pc := 18) dX0_blockAt_18 ?_
    refine r_callN2i (pc := 19) lk_X0_115 dX0_blockAt_19 (s_at (bget rfl) (by omega) (by decide) (hI.PL hZ hlt)) (by decide) (Nat.le_of_ble_eq_true rfl) ⟨Nat.zero_le _, Nat.zero_le _⟩ ?_
    refine r_istore2 (pc := 22) dX0_blockAt_22 rfl ?_
    refine r_aload0 (pc := 23) dX0_blockAt_23 ?_
    refine r_getf (pc := 24) fl_X0_12 dX0_blockAt_24 (bget0 rfl) rfl ?_
    refine r_getf (pc := 27) fl_X0_109 dX0_blockAt_27 (bget rfl) rfl ?_
    refine r_iload2 (pc := 30) dX0_blockAt_30 ?_
    refine r_callN2i (pc := 31) lk_X0_115 dX0_blockAt_31 (s_at (bget rfl) (by omega) (by decide) (hI.F hk)) (by decide) (Nat.le_of_ble_eq_true rfl) ⟨Nat.zero_le _, Nat.zero_le _⟩ ?_
    refine r_iload1 (pc := 34) dX0_blockAt_34 ?_
    refine n_icmp_ne (pc := 35) 51 (by decide) dX0_blockAt_35 (by omega) (by omega) (fun h9 => ?_) (fun h9 => ?_)
    · rw [blk_no (fun k hk2 e => absurd (show zF z (plZ z s) = s by rw [plZ_eq hZ hk2 (Or.inl e)]; exact e) h9)]
      refine r_iconst_m1 (pc := 51) dX0_blockAt_51 ?_
      exact r_ireturn (pc := 52) false rfl rfl rfl dX0_blockAt_52 (Nat.zero_le _) (Nat.zero_le _) (Or.inl rfl) rfl rfl rfl
    · refine r_aload0 (pc := 38) dX0_blockAt_38 ?_
      refine r_iload2 (pc := 39) dX0_blockAt_39 ?_
      refine r_callV1i (pc := 40) lk_X0_184 dX0_blockAt_40 (bget0 rfl) (s_partner hI hZ hk) (by decide) (Nat.le_of_ble_eq_true rfl) ⟨Nat.zero_le _, Nat.zero_le _⟩ ?_
      refine r_iconst_m1 (pc := 43) dX0_blockAt_43 ?_
      cases hp : part z (plZ z s) with
      | none =>
        rw [blk_no (fun k hk2 e => by rw [← plZ_eq hZ hk2 (Or.inl e), hp]; rfl)]
        refine r_icmp_eq (pc := 44) 51 (by decide) dX0_blockAt_44 (fun _ => ?_) (fun h8 => absurd rfl h8)
        refine r_iconst_m1 (pc := 51) dX0_blockAt_51 ?_
        exact r_ireturn (pc := 52) false rfl rfl rfl dX0_blockAt_52 (Nat.zero_le _) (Nat.zero_le _) (Or.inl rfl) rfl rfl rfl
      | some l =>
        have hl := part_lt hZ hp
        rw [(blk_some hZ).mpr ⟨hk, h9, by rw [hp]; rfl⟩]
        refine r_icmp_eq (pc := 44) 51 (by decide) dX0_blockAt_44 (fun h8 => absurd h8 (nI_ne_m1 (by omega))) (fun _ => ?_)
        refine r_iload2 (pc := 47) dX0_blockAt_47 ?_
        refine r_goto (pc := 48) 52 (by decide) dX0_blockAt_48 ?_
        exact r_ireturn (pc := 52) false rfl rfl rfl dX0_blockAt_52 (Nat.zero_le _) (Nat.zero_le _) (Or.inl rfl) rfl rfl rfl
  · rw [blk_no (fun k hk2 e => absurd (hZ.fq hk2) (by omega))]
    refine r_iconst_m1 (pc := 12) dX0_blockAt_12 ?_
    exact r_ireturn (pc := 13) false rfl rfl rfl dX0_blockAt_13 (Nat.zero_le _) (Nat.zero_le _) (Or.inl rfl) rfl rfl rfl
set_option maxRecDepth 20000 in
theorem s_isPossible (hI : InvB S z) (hZ : ZOK z) {n : Nat} (hn : n < 30000) : Spec mX0_isPossible 5 0 0 [.ref b, .int (nI n)] (bset M b S) (some (.int (bI (posZ z n)))) (bset M b S) := by
  have hd := hZ.dims
  refine Spec_of [some (.ref b), some (.int (nI n)), none] (by decide) (Nat.le_of_ble_eq_true rfl) rfl ?_
  refine r_iload1 (pc := 0) dX0_isPossible_0 ?_
  refine n_if_lt (pc := 1) 11 (by decide) dX0_isPossible_1 (by omega) ?_
  refine r_iload1 (pc := 4) dX0_isPossible_4 ?_
  refine n_sipush (pc := 5) 30000 (by decide) dX0_isPossible_5 ?_
  refine n_icmp_lt (pc := 8) 13 (by decide) dX0_isPossible_8 (by omega) (by omega) (fun hc8 => ?_) (fun hc8 => absurd hc8 (by omega))
  refine r_iload1 (pc := 13) dX0_isPossible_13 ?_
  refine n_sipush (pc := 14) 10000 (by decide) dX0_isPossible_14 ?_
  refine n_irem (pc := 17) dX0_isPossible_17 (by omega) (by omega) (by omega) ?_
  refine r_istore2 (pc := 18) dX0_isPossible_18 rfl ?_
  refine r_iload1 (pc := 19) dX0_isPossible_19 ?_
  refine n_sipush (pc := 20) 10000 (by decide) dX0_isPossible_20 ?_
  refine n_icmp_ge (pc := 23) 32 (by decide) dX0_isPossible_23 (by omega) (by omega) (fun h1 => ?_) (fun h1 => ?_)
  · refine r_iload1 (pc := 32) dX0_isPossible_32 ?_
    refine n_sipush (pc := 33) 20000 (by decide) dX0_isPossible_33 ?_
    refine n_icmp_ge (pc := 36) 67 (by decide) dX0_isPossible_36 (by omega) (by omega) (fun h2 => ?_) (fun h2 => ?_)
    · refine r_aload0 (pc := 67) dX0_isPossible_67 ?_
      refine r_iload2 (pc := 68) dX0_isPossible_68 ?_
      refine r_callV1i (pc := 69) lk_X0_190 dX0_isPossible_69 (bget0 rfl) (s_blockAt hI hZ (by omega)) (by decide) (Nat.le_of_ble_eq_true rfl) ⟨Nat.zero_le _, Nat.zero_le _⟩ ?_
      refine r_iconst_m1 (pc := 72) dX0_isPossible_72 ?_
      have e : posZ z n = (blk z (n % 10000)).isSome := by unfold posZ; rw [if_neg (by omega), if_neg (by omega)]
      rw [e]
      cases hb : blk z (n % 10000) with
      | none =>
        refine r_icmp_eq (pc := 73) 80 (by decide) dX0_isPossible_73 (fun _ => ?_) (fun h8 => absurd rfl h8)
        refine n_iconst_0 (pc := 80) dX0_isPossible_80 ?_
        exact r_ireturn (pc := 81) false rfl rfl (by decide) dX0_isPossible_81 (Nat.zero_le _) (Nat.zero_le _) (Or.inl rfl) rfl rfl rfl
      | some k =>
        have hk := ((blk_some hZ).mp hb).1
        refine r_icmp_eq (pc := 73) 80 (by decide) dX0_isPossible_73 (fun h8 => absurd h8 (nI_ne_m1 (by omega))) (fun _ => ?_)
        refine n_iconst_1 (pc := 76) dX0_isPossible_76 ?_
        refine r_goto (pc := 77) 81 (by decide) dX0_isPossible_77 ?_
        exact r_ireturn (pc := 81) false rfl rfl (by decide) dX0_isPossible_81 (Nat.zero_le _) (Nat.zero_le _) (Or.inl rfl) rfl rfl rfl
    · refine r_iload2 (pc := 39) dX0_isPossible_39 ?_
      refine n_bipush (pc := 40) 100 (by decide) dX0_isPossible_40 ?_
      refine n_idiv (pc := 42) dX0_isPossible_42 (by omega) (by omega) (by omega) ?_
      refine r_iload2 (pc := 43) dX0_isPossible_43 ?_
      refine n_bipush (pc := 44) 100 (by decide) dX0_isPossible_44 ?_
      refine n_irem (pc := 46) dX0_isPossible_46 (by omega) (by omega) (by omega) ?_
      have e : posZ z n = (decide (n % 10000 / 100 < n % 10000 % 100) && decide (n % 10000 % 100 < zt z)) := by unfold posZ; rw [if_neg (by omega), if_pos (by omega)]
      rw [e]
      refine n_icmp_ge (pc := 47) 65 (by decide) dX0_isPossible_47 (by omega) (by omega) (fun h3 => ?_) (fun h3 => ?_)
      · refine n_iconst_0 (pc := 65) dX0_isPossible_65 ?_
        exact r_ireturn (pc := 66) false rfl rfl (by decide) dX0_isPossible_66 (Nat.zero_le _) (Nat.zero_le _) (Or.inl rfl) rfl (by rw [show decide (n % 10000 / 100 < n % 10000 % 100) = false by simp; omega]; rfl) rfl
      · refine r_aload0 (pc := 50) dX0_isPossible_50 ?_
        refine r_iload2 (pc := 51) dX0_isPossible_51 ?_
        refine n_bipush (pc := 52) 100 (by decide) dX0_isPossible_52 ?_
        refine n_irem (pc := 54) dX0_isPossible_54 (by omega) (by omega) (by omega) ?_
        refine r_callV1i (pc := 55) lk_X0_165 dX0_isPossible_55 (bget0 rfl) (s_hasPlace hI hZ) (by decide) (Nat.le_of_ble_eq_true rfl) ⟨Nat.zero_le _, Nat.zero_le _⟩ ?_
        rw [inR_nI (by omega) (by omega)]
        refine b_if_eq (pc := 58) 65 (by decide) dX0_isPossible_58 (fun h4 => ?_) (fun h4 => ?_)
        · refine n_iconst_0 (pc := 65) dX0_isPossible_65 ?_
          exact r_ireturn (pc := 66) false rfl rfl (by decide) dX0_isPossible_66 (Nat.zero_le _) (Nat.zero_le _) (Or.inl rfl) rfl (by rw [h4, Bool.and_false]; rfl) rfl
        · refine n_iconst_1 (pc := 61) dX0_isPossible_61 ?_
          refine r_goto (pc := 62) 66 (by decide) dX0_isPossible_62 ?_
          exact r_ireturn (pc := 66) false rfl rfl (by decide) dX0_isPossible_66 (Nat.zero_le _) (Nat.zero_le _) (Or.inl rfl) rfl (by rw [h4, show decide (n % 10000 / 100 < n % 10000 % 100) = true by simp; omega]; rfl) rfl
  · refine r_aload0 (pc := 26) dX0_isPossible_26 ?_
    refine r_iload2 (pc := 27) dX0_isPossible_27 ?_
    refine r_callV1i (pc := 28) lk_X0_165 dX0_isPossible_28 (bget0 rfl) (s_hasPlace hI hZ) (by decide) (Nat.le_of_ble_eq_true rfl) ⟨Nat.zero_le _, Nat.zero_le _⟩ ?_
    rw [inR_nI (by omega) (by omega)]
    have e : posZ z n = decide (n % 10000 < zt z) := by unfold posZ; rw [if_pos h1, Nat.mod_eq_of_lt h1]
    rw [e]
    exact r_ireturn (pc := 31) false rfl rfl (nar_bI _) dX0_isPossible_31 (Nat.zero_le _) (Nat.zero_le _) (Or.inl rfl) rfl rfl rfl
set_option maxRecDepth 20000 in
theorem s_isPossibleNo {x : Int32} (hx : x < 0 ∨ nI 30000 ≤ x) : Spec mX0_isPossible 5 0 0 [.ref b, .int x] M (some (.int (bI false))) M := by
  refine Spec_of [some (.ref b), some (.int x), none] (by decide) (Nat.le_of_ble_eq_true rfl) rfl ?_
  refine r_iload1 (pc := 0) dX0_isPossible_0 ?_
  rcases hx with hx | hx
  · refine r_if_lt (pc := 1) 11 (by decide) dX0_isPossible_1 (fun _ => ?_) (fun h => absurd hx h)
    refine n_iconst_0 (pc := 11) dX0_isPossible_11 ?_
    exact r_ireturn (pc := 12) false rfl rfl (by decide) dX0_isPossible_12 (Nat.zero_le _) (Nat.zero_le _) (Or.inl rfl) rfl rfl rfl
  · refine r_if_lt (pc := 1) 11 (by decide) dX0_isPossible_1 (fun h => absurd h (ne_ge hx (by decide))) (fun _ => ?_)
    refine r_iload1 (pc := 4) dX0_isPossible_4 ?_
    refine n_sipush (pc := 5) 30000 (by decide) dX0_isPossible_5 ?_
    refine r_icmp_lt (pc := 8) 13 (by decide) dX0_isPossible_8 (fun h => absurd hx (Int32.not_le.mpr h)) (fun _ => ?_)
    refine n_iconst_0 (pc := 11) dX0_isPossible_11 ?_
    exact r_ireturn (pc := 12) false rfl rfl (by decide) dX0_isPossible_12 (Nat.zero_le _) (Nat.zero_le _) (Or.inl rfl) rfl rfl rfl
set_option maxRecDepth 20000 in
theorem s_gainOf (hI : InvB S z) (hZ : ZOK z) {n : Nat} (hn : n < 30000) (hp : posZ z n = true) : Spec mX0_gainOf 6 0 0 [.ref b, .int (nI n)] (bset M b S) (some (.int (iI (gnZ z n)))) (bset M b S) := by
  have hd := hZ.dims
  refine Spec_of [some (.ref b), some (.int (nI n)), none, none] (by decide) (Nat.le_of_ble_eq_true rfl) rfl ?_
  refine r_iload1 (pc := 0) dX0_gainOf_0 ?_
  refine n_sipush (pc := 1) 10000 (by decide) dX0_gainOf_1 ?_
  refine n_irem (pc := 4) dX0_gainOf_4 (by omega) (by omega) (by omega) ?_
  refine r_istore2 (pc := 5) dX0_gainOf_5 rfl ?_
  refine r_iload1 (pc := 6) dX0_gainOf_6 ?_
  refine n_sipush (pc := 7) 10000 (by decide) dX0_gainOf_7 ?_
  refine n_icmp_ge (pc := 10) 19 (by decide) dX0_gainOf_10 (by omega) (by omega) (fun h1 => ?_) (fun h1 => ?_)
  · refine r_iload1 (pc := 19) dX0_gainOf_19 ?_
    refine n_sipush (pc := 20) 20000 (by decide) dX0_gainOf_20 ?_
    refine n_icmp_ge (pc := 23) 39 (by decide) dX0_gainOf_23 (by omega) (by omega) (fun h2 => ?_) (fun h2 => ?_)
    · unfold posZ at hp
      rw [if_neg (by omega), if_neg (by omega)] at hp
      obtain ⟨k, hb⟩ := Option.isSome_iff_exists.mp hp
      obtain ⟨hk, hf, hs⟩ := (blk_some hZ).mp hb
      obtain ⟨l, hl⟩ := Option.isSome_iff_exists.mp hs
      have hq := hZ.fq hk
      have epl : plZ z (n % 10000) = k := plZ_eq hZ hk (Or.inl hf)
      refine r_aload0 (pc := 39) dX0_gainOf_39 ?_
      refine r_getf (pc := 40) fl_X0_31 dX0_gainOf_40 (bget0 rfl) rfl ?_
      refine r_iload2 (pc := 43) dX0_gainOf_43 ?_
      refine r_callN2i (pc := 44) lk_X0_115 dX0_gainOf_44 (s_at (bget rfl) (by omega) (by decide) (by rw [hI.PL hZ (by omega), epl])) (by decide) (Nat.le_of_ble_eq_true rfl) ⟨Nat.zero_le _, Nat.zero_le _⟩ ?_
      refine r_istore3 (pc := 47) dX0_gainOf_47 rfl ?_
      refine r_aload0 (pc := 48) dX0_gainOf_48 ?_
      refine r_iload3 (pc := 49) dX0_gainOf_49 ?_
      refine r_aload0 (pc := 50) dX0_gainOf_50 ?_
      refine r_iload3 (pc := 51) dX0_gainOf_51 ?_
      refine r_callV1i (pc := 52) lk_X0_184 dX0_gainOf_52 (bget0 rfl) (s_partner hI hZ hk) (by decide) (Nat.le_of_ble_eq_true rfl) ⟨Nat.zero_le _, Nat.zero_le _⟩ ?_
      refine r_callV2i (pc := 55) lk_X0_211 dX0_gainOf_55 (bget0 rfl) (by rw [hl]; exact s_flipGain hI hZ hk hl) (by decide) (Nat.le_of_ble_eq_true rfl) ⟨Nat.zero_le _, Nat.zero_le _⟩ ?_
      exact r_ireturn (pc := 58) false rfl rfl rfl dX0_gainOf_58 (Nat.zero_le _) (Nat.zero_le _) (Or.inl rfl) rfl (by unfold gnZ; rw [if_neg (by omega), if_neg (by omega), hb]; simp [hl]) rfl
    · unfold posZ at hp
      rw [if_neg (by omega), if_pos (by omega)] at hp
      simp at hp
      refine r_aload0 (pc := 26) dX0_gainOf_26 ?_
      refine r_iload2 (pc := 27) dX0_gainOf_27 ?_
      refine n_bipush (pc := 28) 100 (by decide) dX0_gainOf_28 ?_
      refine n_idiv (pc := 30) dX0_gainOf_30 (by omega) (by omega) (by omega) ?_
      refine r_iload2 (pc := 31) dX0_gainOf_31 ?_
      refine n_bipush (pc := 32) 100 (by decide) dX0_gainOf_32 ?_
      refine n_irem (pc := 34) dX0_gainOf_34 (by omega) (by omega) (by omega) ?_
      refine r_callV2i (pc := 35) lk_X0_208 dX0_gainOf_35 (bget0 rfl) (s_swapGain hI hZ (by omega) (by omega)) (by decide) (Nat.le_of_ble_eq_true rfl) ⟨Nat.zero_le _, Nat.zero_le _⟩ ?_
      exact r_ireturn (pc := 38) false rfl rfl rfl dX0_gainOf_38 (Nat.zero_le _) (Nat.zero_le _) (Or.inl rfl) rfl (by unfold gnZ; rw [if_neg (by omega), if_pos (by omega)]) rfl
  · unfold posZ at hp
    rw [if_pos h1] at hp
    simp at hp
    refine r_aload0 (pc := 13) dX0_gainOf_13 ?_
    refine r_iload2 (pc := 14) dX0_gainOf_14 ?_
    refine r_callV1i (pc := 15) lk_X0_205 dX0_gainOf_15 (bget0 rfl) (s_turnGain hI hZ (by rw [Nat.mod_eq_of_lt h1]; exact hp)) (by decide) (Nat.le_of_ble_eq_true rfl) ⟨Nat.zero_le _, Nat.zero_le _⟩ ?_
    exact r_ireturn (pc := 18) false rfl rfl rfl dX0_gainOf_18 (Nat.zero_le _) (Nat.zero_le _) (Or.inl rfl) rfl (by unfold gnZ; rw [if_pos h1, Nat.mod_eq_of_lt h1]) rfl
set_option maxRecDepth 20000 in
theorem s_rankOf (hI : InvB S z) (hZ : ZOK z) (hE : ∀ k, k < zt z → S.2 21 k = iI (er z k)) {k : Nat} (hk : k < zt z) : Spec mX0_rankOf 2 0 0 [.ref b, .int (nI k)] (bset M b S) (some (.int (nI (rkZ z k (zt z))))) (bset M b S) := by
  have hd := hZ.dims
  have bk := hZ.erB hk
  refine Spec_of [some (.ref b), some (.int (nI k)), none, none, none, none] (by decide) (Nat.le_of_ble_eq_true rfl) rfl ?_
  refine n_iconst_0 (pc := 0) dX0_rankOf_0 ?_
  refine r_istore2 (pc := 1) dX0_rankOf_1 rfl ?_
  refine r_aload0 (pc := 2) dX0_rankOf_2 ?_
  refine r_getf (pc := 3) fl_X0_44 dX0_rankOf_3 (bget0 rfl) rfl ?_
  refine r_iload1 (pc := 6) dX0_rankOf_6 ?_
  refine r_callN2i (pc := 7) lk_X0_115 dX0_rankOf_7 (s_at (bget rfl) (by omega) (by decide) (hE k hk)) (by decide) (Nat.le_of_ble_eq_true rfl) ⟨Nat.zero_le _, Nat.zero_le _⟩ ?_
  refine r_istore3 (pc := 10) dX0_rankOf_10 rfl ?_
  refine n_iconst_0 (pc := 11) dX0_rankOf_11 ?_
  refine r_istore4 (pc := 12) dX0_rankOf_12 rfl ?_
  refine up_to (N := zt z) (k := 0) (fun i => ∀ a5, nc a5 = true →
    G mX0_rankOf 2 (.inl false) 0 0 (dT (some (.int (nI (rkZ z k (zt z))))) (bset M b S)) none 0 0 14 [some (.ref b), some (.int (nI k)), some (.int (nI (rkZ z k i))), some (.int (iI (er z k))), some (.int (nI i)), a5] [] (bset M b S)
    ) (fun a5 _ => ?_) (fun i hi ih a5 _ => ?_) (Nat.zero_le _) none rfl
  · refine r_iload4 (pc := 14) dX0_rankOf_14 ?_
    refine r_aload0 (pc := 16) dX0_rankOf_16 ?_
    refine r_getf (pc := 17) fl_X0_75 dX0_rankOf_17 (bget0 rfl) rfl ?_
    rw [hI.c3]
    refine n_icmp_ge (pc := 20) 66 (by decide) dX0_rankOf_20 (by omega) (by omega) (fun hc20 => ?_) (fun hc20 => absurd hc20 (by omega))
    refine r_iload2 (pc := 66) dX0_rankOf_66 ?_
    exact r_ireturn (pc := 67) false rfl rfl rfl dX0_rankOf_67 (Nat.zero_le _) (Nat.zero_le _) (Or.inl rfl) rfl rfl rfl
  · have bi := hZ.erB hi
    have e : rkZ z k (i + 1) = rkZ z k i + (if decide (er z k < er z i) || (decide (er z i = er z k) && decide (i < k)) then 1 else 0) := rfl
    refine r_iload4 (pc := 14) dX0_rankOf_14 ?_
    refine r_aload0 (pc := 16) dX0_rankOf_16 ?_
    refine r_getf (pc := 17) fl_X0_75 dX0_rankOf_17 (bget0 rfl) rfl ?_
    rw [hI.c3]
    refine n_icmp_ge (pc := 20) 66 (by decide) dX0_rankOf_20 (by omega) (by omega) (fun hc20 => absurd hc20 (by omega)) (fun hc20 => ?_)
    refine r_aload0 (pc := 23) dX0_rankOf_23 ?_
    refine r_getf (pc := 24) fl_X0_44 dX0_rankOf_24 (bget0 rfl) rfl ?_
    refine r_iload4 (pc := 27) dX0_rankOf_27 ?_
    refine r_callN2i (pc := 29) lk_X0_115 dX0_rankOf_29 (s_at (bget rfl) (by omega) (by decide) (hE i hi)) (by decide) (Nat.le_of_ble_eq_true rfl) ⟨Nat.zero_le _, Nat.zero_le _⟩ ?_
    refine r_istore5 (pc := 32) dX0_rankOf_32 rfl ?_
    refine r_iload2 (pc := 34) dX0_rankOf_34 ?_
    refine r_iload5 (pc := 35) dX0_rankOf_35 ?_
    refine r_iload3 (pc := 37) dX0_rankOf_37 ?_
    refine z_icmp_gt (pc := 38) 53 (by decide) dX0_rankOf_38 (by omega) (by omega) (by omega) (by omega) (fun h1 => ?_) (fun h1 => ?_)
    · rw [if_pos (by simp [h1])] at e
      refine n_iconst_1 (pc := 53) dX0_rankOf_53 ?_
      refine r_goto (pc := 54) 58 (by decide) dX0_rankOf_54 ?_
      first | refine n_iadd (pc := 58) dX0_rankOf_58 ?_ | refine z_iadd (pc := 58) dX0_rankOf_58 ?_ | refine r_iadd (pc := 58) dX0_rankOf_58 ?_
      refine r_istore2 (pc := 59) dX0_rankOf_59 rfl ?_
      refine n_iinc4 (pc := 60) dX0_rankOf_60 rfl ?_
      refine r_goto (pc := 63) 14 (by decide) dX0_rankOf_63 ?_
      rw [e] at ih; exact ih _ rfl
    · refine r_iload5 (pc := 41) dX0_rankOf_41 ?_
      refine r_iload3 (pc := 43) dX0_rankOf_43 ?_
      refine z_icmp_ne (pc := 44) 57 (by decide) dX0_rankOf_44 (by omega) (by omega) (by omega) (by omega) (fun h2 => ?_) (fun h2 => ?_)
      · rw [if_neg (by simp; constructor; omega; intro h3; exact absurd h3 h2)] at e
        refine n_iconst_0 (pc := 57) dX0_rankOf_57 ?_
        first | refine n_iadd (pc := 58) dX0_rankOf_58 ?_ | refine z_iadd (pc := 58) dX0_rankOf_58 ?_ | refine r_iadd (pc := 58) dX0_rankOf_58 ?_
        refine r_istore2 (pc := 59) dX0_rankOf_59 rfl ?_
        refine n_iinc4 (pc := 60) dX0_rankOf_60 rfl ?_
        refine r_goto (pc := 63) 14 (by decide) dX0_rankOf_63 ?_
        rw [e] at ih; exact ih _ rfl
      · refine r_iload4 (pc := 47) dX0_rankOf_47 ?_
        refine r_iload1 (pc := 49) dX0_rankOf_49 ?_
        refine n_icmp_ge (pc := 50) 57 (by decide) dX0_rankOf_50 (by omega) (by omega) (fun h3 => ?_) (fun h3 => ?_)
        · rw [if_neg (by simp; constructor; omega; intro _; omega)] at e
          refine n_iconst_0 (pc := 57) dX0_rankOf_57 ?_
          first | refine n_iadd (pc := 58) dX0_rankOf_58 ?_ | refine z_iadd (pc := 58) dX0_rankOf_58 ?_ | refine r_iadd (pc := 58) dX0_rankOf_58 ?_
          refine r_istore2 (pc := 59) dX0_rankOf_59 rfl ?_
          refine n_iinc4 (pc := 60) dX0_rankOf_60 rfl ?_
          refine r_goto (pc := 63) 14 (by decide) dX0_rankOf_63 ?_
          rw [e] at ih; exact ih _ rfl
        · rw [if_pos (by simp [h2, h3])] at e
          refine n_iconst_1 (pc := 53) dX0_rankOf_53 ?_
          refine r_goto (pc := 54) 58 (by decide) dX0_rankOf_54 ?_
          first | refine n_iadd (pc := 58) dX0_rankOf_58 ?_ | refine z_iadd (pc := 58) dX0_rankOf_58 ?_ | refine r_iadd (pc := 58) dX0_rankOf_58 ?_
          refine r_istore2 (pc := 59) dX0_rankOf_59 rfl ?_
          refine n_iinc4 (pc := 60) dX0_rankOf_60 rfl ?_
          refine r_goto (pc := 63) 14 (by decide) dX0_rankOf_63 ?_
          rw [e] at ih; exact ih _ rfl
set_option maxRecDepth 20000 in
theorem s_placeOfRank (hI : InvB S z) (hZ : ZOK z) {r : Nat} (hr : r < zt z) : SpecP mX0_placeOfRank 4 0 0 [.ref b, .int (nI r)] (bset M b S) (tB (some (.int (oI (worZ z r)))) M b z) := by
  have hd := hZ.dims
  refine Spec_of [some (.ref b), some (.int (nI r)), none] (by decide) (Nat.le_of_ble_eq_true rfl) rfl ?_
  refine n_iconst_0 (pc := 0) dX0_placeOfRank_0 ?_
  refine r_istore2 (pc := 1) dX0_placeOfRank_1 rfl ?_
  refine up_to (N := zt z) (k := 0) (fun i => ∀ S, InvB S z → (∀ j, j < i → S.2 21 j = iI (er z j)) →
    G mX0_placeOfRank 4 (.inl false) 0 0 (tB (some (.int (oI (worZ z r)))) M b z) none 0 0 2 [some (.ref b), some (.int (nI r)), some (.int (nI i))] [] (bset M b S)
    ) (fun S hI hE => ?_) (fun i hi ih S hI hE => ?_) (Nat.zero_le _) S hI (fun j hj => absurd hj (by omega))
  · refine r_iload2 (pc := 2) dX0_placeOfRank_2 ?_
    refine r_aload0 (pc := 3) dX0_placeOfRank_3 ?_
    refine r_getf (pc := 4) fl_X0_75 dX0_placeOfRank_4 (bget0 rfl) rfl ?_
    rw [hI.c3]
    refine n_icmp_ge (pc := 7) 29 (by decide) dX0_placeOfRank_7 (by omega) (by omega) (fun hc7 => ?_) (fun hc7 => absurd hc7 (by omega))
    refine n_iconst_0 (pc := 29) dX0_placeOfRank_29 ?_
    refine r_istore2 (pc := 30) dX0_placeOfRank_30 rfl ?_
    refine up_to (N := zt z) (k := 0) (fun i => (∀ j, j < i → rkZ z j (zt z) ≠ r) →
      G mX0_placeOfRank 4 (.inl false) 0 0 (tB (some (.int (oI (worZ z r)))) M b z) none 0 0 31 [some (.ref b), some (.int (nI r)), some (.int (nI i))] [] (bset M b S)
      ) (fun hno => ?_) (fun i hi ih hno => ?_) (Nat.zero_le _) (fun j hj => absurd hj (by omega))
    · refine r_iload2 (pc := 31) dX0_placeOfRank_31 ?_
      refine r_aload0 (pc := 32) dX0_placeOfRank_32 ?_
      refine r_getf (pc := 33) fl_X0_75 dX0_placeOfRank_33 (bget0 rfl) rfl ?_
      rw [hI.c3]
      refine n_icmp_ge (pc := 36) 56 (by decide) dX0_placeOfRank_36 (by omega) (by omega) (fun hc36 => ?_) (fun hc36 => absurd hc36 (by omega))
      refine r_iconst_m1 (pc := 56) dX0_placeOfRank_56 ?_
      refine p_ireturn (pc := 57) false rfl rfl rfl dX0_placeOfRank_57 (Nat.zero_le _) (Nat.zero_le _) (Or.inl rfl) ⟨?_, S, hI, rfl⟩
      rw [show worZ z r = none from find_no (fun j hj => by simp [hno j hj])]; rfl
    · have hrk : rkZ z i (zt z) ≤ zt z := zN_le _ _
      refine r_iload2 (pc := 31) dX0_placeOfRank_31 ?_
      refine r_aload0 (pc := 32) dX0_placeOfRank_32 ?_
      refine r_getf (pc := 33) fl_X0_75 dX0_placeOfRank_33 (bget0 rfl) rfl ?_
      rw [hI.c3]
      refine n_icmp_ge (pc := 36) 56 (by decide) dX0_placeOfRank_36 (by omega) (by omega) (fun hc36 => absurd hc36 (by omega)) (fun hc36 => ?_)
      refine r_aload0 (pc := 39) dX0_placeOfRank_39 ?_
      refine r_iload2 (pc := 40) dX0_placeOfRank_40 ?_
      refine r_callV1i (pc := 41) lk_X0_149 dX0_placeOfRank_41 (bget0 rfl) (s_rankOf hI hZ hE hi) (by decide) (Nat.le_of_ble_eq_true rfl) ⟨Nat.zero_le _, Nat.zero_le _⟩ ?_
      refine r_iload1 (pc := 44) dX0_placeOfRank_44 ?_
      refine n_icmp_ne (pc := 45) 50 (by decide) dX0_placeOfRank_45 (by omega) (by omega) (fun h9 => ?_) (fun h9 => ?_)
      · refine n_iinc2 (pc := 50) dX0_placeOfRank_50 rfl ?_
        refine r_goto (pc := 53) 31 (by decide) dX0_placeOfRank_53 ?_
        exact ih (fun j hj => by rcases Nat.lt_succ_iff_lt_or_eq.mp hj with h8 | h8; exact hno j h8; rw [h8]; exact h9)
      · refine r_iload2 (pc := 48) dX0_placeOfRank_48 ?_
        refine p_ireturn (pc := 49) false rfl rfl rfl dX0_placeOfRank_49 (Nat.zero_le _) (Nat.zero_le _) (Or.inl rfl) ⟨?_, S, hI, rfl⟩
        rw [show worZ z r = some i from find_first hi (by simp [h9]) (fun j hj => by simp [hno j hj])]; rfl
  · refine r_iload2 (pc := 2) dX0_placeOfRank_2 ?_
    refine r_aload0 (pc := 3) dX0_placeOfRank_3 ?_
    refine r_getf (pc := 4) fl_X0_75 dX0_placeOfRank_4 (bget0 rfl) rfl ?_
    rw [hI.c3]
    refine n_icmp_ge (pc := 7) 29 (by decide) dX0_placeOfRank_7 (by omega) (by omega) (fun hc7 => absurd hc7 (by omega)) (fun hc7 => ?_)
    refine r_aload0 (pc := 10) dX0_placeOfRank_10 ?_
    refine r_getf (pc := 11) fl_X0_44 dX0_placeOfRank_11 (bget0 rfl) rfl ?_
    refine r_iload2 (pc := 14) dX0_placeOfRank_14 ?_
    refine r_aload0 (pc := 15) dX0_placeOfRank_15 ?_
    refine r_iload2 (pc := 16) dX0_placeOfRank_16 ?_
    refine r_callV1i (pc := 17) lk_X0_138 dX0_placeOfRank_17 (bget0 rfl) (s_errorAt hI hZ hi) (by decide) (Nat.le_of_ble_eq_true rfl) ⟨Nat.zero_le _, Nat.zero_le _⟩ ?_
    refine r_callN3v (pc := 20) lk_X0_85 dX0_placeOfRank_20 (s_putB (j := 21) (by decide) rfl (fun _ => rfl) (by omega) (by decide)) (by decide) (Nat.le_of_ble_eq_true rfl) ⟨Nat.zero_le _, Nat.zero_le _⟩ ?_
    refine n_iinc2 (pc := 23) dX0_placeOfRank_23 rfl ?_
    refine r_goto (pc := 26) 2 (by decide) dX0_placeOfRank_26 ?_
    refine ih _ (hI.scr (by decide) _) (fun j hj => ?_)
    rw [ia_same]
    by_cases e : j = i
    · rw [e, upd_same]
    · rw [upd_ne e]; exact hE j (by omega)
end BREAD5

/-- the block that a free flip turns -/
def canF (z : ZS) (s : Nat) : Option (Nat × Nat) := match blk z s with
  | none => none
  | some k => match part z k with
    | none => none
    | some l => if zH z k = 0 ∧ zH z l = 0 then some (k, l) else none
def flA (z : ZS) (x y : Nat) : Option (Nat × Nat) := if x < zc z ∧ y < zr z then canF z (y * zc z + x) else none
def flO (z : ZS) (o : Option (Nat × Nat)) : ZS := match o with
  | none => z
  | some p => flipZ z p.1 p.2
/-- a change of its number is made -/
def doZ (z : ZS) (n : Nat) : ZS := if n < 10000 then turnZ z n else if n < 20000 then swapZ z (n % 10000 / 100) (n % 10000 % 100) else match blk z (n % 10000) with
  | none => z
  | some k => match part z k with
    | none => z
    | some l => flipZ z k l
def impZ : Nat → ZS → ZS
  | 0, z => z
  | f + 1, z => match bestZ z with
    | none => z
    | some q => if 0 < q.2 then impZ f (doZ z q.1) else z
theorem impZ_none {f : Nat} {z : ZS} (h : bestZ z = none) : impZ (f + 1) z = z := by
  show (match bestZ z with | none => z | some q => if 0 < q.2 then impZ f (doZ z q.1) else z) = z
  rw [h]
theorem impZ_stop {f n : Nat} {g : Int} {z : ZS} (h : bestZ z = some (n, g)) (hg : ¬ 0 < g) : impZ (f + 1) z = z := by
  show (match bestZ z with | none => z | some q => if 0 < q.2 then impZ f (doZ z q.1) else z) = z
  rw [h]
  exact if_neg hg
theorem impZ_go {f n : Nat} {g : Int} {z : ZS} (h : bestZ z = some (n, g)) (hg : 0 < g) : impZ (f + 1) z = impZ f (doZ z n) := by
  show (match bestZ z with | none => z | some q => if 0 < q.2 then impZ f (doZ z q.1) else z) = _
  rw [h]
  exact if_pos hg
/-- a change that there is -/
def VD (z : ZS) (n : Nat) : Prop := (n < zt z) ∨ (∃ j k, j < k ∧ k < zt z ∧ n = 10000 + 100 * j + k) ∨ (∃ i l, i < zt z ∧ part z i = some l ∧ n = 20000 + zF z i)
def okV (z : ZS) (o : Option (Nat × Int)) : Prop := ∀ q, o = some q → VD z q.1
theorem okV_off {z : ZS} {o : Option (Nat × Int)} {n : Nat} {g : Int} (h : okV z o) (hn : VD z n) : okV z (offZ o n g) := by
  intro q hq
  unfold offZ at hq
  split at hq
  · cases hq; exact hn
  · split at hq
    · cases hq; exact hn
    · exact h q hq
theorem tuF_v {z : ZS} : ∀ n, n ≤ zt z → okV z (tuF z n)
  | 0, _ => fun q h => by cases h
  | n + 1, hn => by
    unfold tuF
    split
    · exact okV_off (tuF_v n (by omega)) (Or.inl (by omega))
    · exact tuF_v n (by omega)
theorem swF_v {z : ZS} {j : Nat} {o : Option (Nat × Int)} (ho : okV z o) : ∀ n, n ≤ zt z → okV z (swF z j o n)
  | 0, _ => ho
  | n + 1, hn => by
    unfold swF
    split
    · rename_i hc
      exact okV_off (swF_v ho n (by omega)) (Or.inr (Or.inl ⟨j, n, hc.1, by omega, rfl⟩))
    · exact swF_v ho n (by omega)
theorem swA_v {z : ZS} {o : Option (Nat × Int)} (ho : okV z o) : ∀ n, n ≤ zt z → okV z (swA z o n)
  | 0, _ => ho
  | n + 1, hn => by
    unfold swA
    split
    · exact swF_v (swA_v ho n (by omega)) _ (Nat.le_refl _)
    · exact swA_v ho n (by omega)
theorem flF_v {z : ZS} {o : Option (Nat × Int)} (ho : okV z o) : ∀ n, n ≤ zt z → okV z (flF z o n)
  | 0, _ => ho
  | n + 1, hn => by
    unfold flF
    split
    · exact flF_v ho n (by omega)
    · rename_i l hp
      split
      · exact okV_off (flF_v ho n (by omega)) (Or.inr (Or.inr ⟨n, l, by omega, hp, rfl⟩))
      · exact flF_v ho n (by omega)
theorem bestZ_v {z : ZS} : okV z (bestZ z) := flF_v (swA_v (tuF_v _ (Nat.le_refl _)) _ (Nat.le_refl _)) _ (Nat.le_refl _)
theorem doZ_turn {z : ZS} {n : Nat} (h : n < 10000) : doZ z n = turnZ z n := if_pos h
theorem doZ_swap {z : ZS} {j k : Nat} (hj : j < 100) (hk : k < 100) : doZ z (10000 + 100 * j + k) = swapZ z j k := by
  unfold doZ
  rw [if_neg (by omega), if_pos (by omega)]
  have e1 : (10000 + 100 * j + k) % 10000 / 100 = j := by omega
  have e2 : (10000 + 100 * j + k) % 10000 % 100 = k := by omega
  rw [e1, e2]
theorem doZ_flip {z : ZS} (h : ZOK z) {i l : Nat} (hi : i < zt z) (hp : part z i = some l) : doZ z (20000 + zF z i) = flipZ z i l := by
  have hd := h.dims
  have hf := h.fq hi
  unfold doZ
  rw [if_neg (by omega), if_neg (by omega)]
  have e1 : (20000 + zF z i) % 10000 = zF z i := by omega
  rw [e1, (blk_some h).mpr ⟨hi, rfl, by rw [hp]; rfl⟩]
  show (match part z i with | none => z | some l => flipZ z i l) = _
  rw [hp]
section IMPROVE
variable {M : Mem} {b : Nat} {S : BS} {z : ZS}
set_option maxRecDepth 20000 in
theorem s_tryFlip (hI : InvB S z) (hZ : ZOK z) {x y : Nat} (hx : x < 2147483648) (hy : y < 2147483648) : SpecP mX0_tryFlip 5 0 0 [.ref b, .int (nI x), .int (nI y)] (bset M b S) (tB (some (.int (bI (flA z x y).isSome))) M b (flO z (flA z x y))) := by
  have hd := hZ.dims
  refine Spec_of [some (.ref b), some (.int (nI x)), some (.int (nI y)), none] (by decide) (Nat.le_of_ble_eq_true rfl) rfl ?_
  have no : ∀ a3, flA z x y = none →
    G mX0_tryFlip 5 (.inl false) 0 0 (tB (some (.int (bI (flA z x y).isSome))) M b (flO z (flA z x y))) none 0 0 37 [some (.ref b), some (.int (nI x)), some (.int (nI y)), a3] [] (bset M b S)
    := by
    intro a3 e
    refine n_iconst_0 (pc := 37) dX0_tryFlip_37 ?_
    refine p_ireturn (pc := 38) false rfl rfl (by decide) dX0_tryFlip_38 (Nat.zero_le _) (Nat.zero_le _) (Or.inl rfl) ⟨by rw [e]; rfl, S, by rw [e]; exact hI, rfl⟩
  refine r_aload0 (pc := 0) dX0_tryFlip_0 ?_
  refine r_iload1 (pc := 1) dX0_tryFlip_1 ?_
  refine r_iload2 (pc := 2) dX0_tryFlip_2 ?_
  refine r_callV2i (pc := 3) lk_X0_155 dX0_tryFlip_3 (bget0 rfl) (s_hasSquare hI hZ) (by decide) (Nat.le_of_ble_eq_true rfl) ⟨Nat.zero_le _, Nat.zero_le _⟩ ?_
  rw [inR_nI hx (by omega), inR_nI hy (by omega)]
  refine b_if_eq (pc := 6) 22 (by decide) dX0_tryFlip_6 (fun h1 => ?_) (fun h1 => ?_)
  · refine r_iconst_m1 (pc := 22) dX0_tryFlip_22 ?_
    refine r_istore3 (pc := 23) dX0_tryFlip_23 rfl ?_
    refine r_iload3 (pc := 24) dX0_tryFlip_24 ?_
    refine r_iconst_m1 (pc := 25) dX0_tryFlip_25 ?_
    refine r_icmp_eq (pc := 26) 37 (by decide) dX0_tryFlip_26 (fun _ => no _ ?_) (fun h9 => absurd rfl h9)
    unfold flA
    refine if_neg (fun h9 => ?_)
    simp [h9.1, h9.2] at h1
  · have h3 : x < zc z ∧ y < zr z := by simpa using h1
    have hq : y * zc z + x < zq z := by
      have h4 : y * zc z + zc z ≤ zr z * zc z := by rw [← Nat.succ_mul]; exact Nat.mul_le_mul_right _ h3.2
      have h5 : zq z = zr z * zc z := Nat.mul_comm _ _
      omega
    have ef : flA z x y = canF z (y * zc z + x) := if_pos h3
    refine r_aload0 (pc := 9) dX0_tryFlip_9 ?_
    refine r_aload0 (pc := 10) dX0_tryFlip_10 ?_
    refine r_iload1 (pc := 11) dX0_tryFlip_11 ?_
    refine r_iload2 (pc := 12) dX0_tryFlip_12 ?_
    refine r_callV2i (pc := 13) lk_X0_162 dX0_tryFlip_13 (bget0 rfl) (s_squareAt hI) (by decide) (Nat.le_of_ble_eq_true rfl) ⟨Nat.zero_le _, Nat.zero_le _⟩ ?_
    refine r_callV1i (pc := 16) lk_X0_190 dX0_tryFlip_16 (bget0 rfl) (s_blockAt hI hZ (by omega)) (by decide) (Nat.le_of_ble_eq_true rfl) ⟨Nat.zero_le _, Nat.zero_le _⟩ ?_
    refine r_goto (pc := 19) 23 (by decide) dX0_tryFlip_19 ?_
    refine r_istore3 (pc := 23) dX0_tryFlip_23 rfl ?_
    refine r_iload3 (pc := 24) dX0_tryFlip_24 ?_
    refine r_iconst_m1 (pc := 25) dX0_tryFlip_25 ?_
    cases hb1 : blk z (y * zc z + x) with
    | none =>
      refine r_icmp_eq (pc := 26) 37 (by decide) dX0_tryFlip_26 (fun _ => no _ ?_) (fun h9 => absurd rfl h9)
      rw [ef]; unfold canF; rw [hb1]
    | some k =>
      obtain ⟨hk, -, hs⟩ := (blk_some hZ).mp hb1
      obtain ⟨l, hp⟩ := Option.isSome_iff_exists.mp hs
      have hl := part_lt hZ hp
      refine r_icmp_eq (pc := 26) 37 (by decide) dX0_tryFlip_26 (fun h8 => absurd h8 (nI_ne_m1 (by omega))) (fun _ => ?_)
      rw [oI_some]
      refine r_aload0 (pc := 29) dX0_tryFlip_29 ?_
      refine r_iload3 (pc := 30) dX0_tryFlip_30 ?_
      refine r_callV1i (pc := 31) lk_X0_193 dX0_tryFlip_31 (bget0 rfl) (s_isFreeBlock hI hZ hk) (by decide) (Nat.le_of_ble_eq_true rfl) ⟨Nat.zero_le _, Nat.zero_le _⟩ ?_
      rw [hp]
      refine b_if_ne (pc := 34) 39 (by decide) dX0_tryFlip_34 (fun h8 => ?_) (fun h8 => no _ ?_)
      · have e : flA z x y = some (k, l) := by
          rw [ef]; unfold canF; rw [hb1]
          show (match part z k with | none => none | some l => if zH z k = 0 ∧ zH z l = 0 then some (k, l) else none) = _
          rw [hp]
          exact if_pos (by simpa using h8)
        refine r_aload0 (pc := 39) dX0_tryFlip_39 ?_
        refine r_iload3 (pc := 40) dX0_tryFlip_40 ?_
        refine r_callV1w (pc := 41) lk_X0_196 dX0_tryFlip_41 (bget0 rfl) (s_flipBlock hI hZ hk hp) (by decide) (Nat.le_of_ble_eq_true rfl) ⟨Nat.zero_le _, Nat.zero_le _⟩ (fun M9 h9 => ?_)
        obtain ⟨S, hI, rfl⟩ := h9
        refine n_iconst_1 (pc := 44) dX0_tryFlip_44 ?_
        refine p_ireturn (pc := 45) false rfl rfl (by decide) dX0_tryFlip_45 (Nat.zero_le _) (Nat.zero_le _) (Or.inl rfl) ⟨by rw [e]; rfl, S, by rw [e]; exact hI, rfl⟩
      · rw [ef]; unfold canF; rw [hb1]
        show (match part z k with | none => none | some l => if zH z k = 0 ∧ zH z l = 0 then some (k, l) else none) = _
        rw [hp]
        exact if_neg (fun h7 => by simp [h7.1, h7.2] at h8)
set_option maxRecDepth 20000 in
theorem s_doBestChanges (hI : InvB S z) (hZ : ZOK z) {m : Nat} (hm : m < 2147483648) : SpecP mX0_doBestChanges 5 0 0 [.ref b, .int (nI m)] (bset M b S) (tB none M b (impZ m z)) := by
  refine Spec_of [some (.ref b), some (.int (nI m)), none, none] (by decide) (Nat.le_of_ble_eq_true rfl) rfl ?_
  have lp : ∀ (f i : Nat) (S : BS) (w : ZS) (a3 : Option Value), f + i = m → InvB S w → ZOK w → impZ f w = impZ m z →
    G mX0_doBestChanges 5 (.inl false) 0 0 (tB none M b (impZ m z)) none 0 0 2 [some (.ref b), some (.int (nI m)), some (.int (nI i)), a3] [] (bset M b S)
    := by
    intro f
    induction f with
    | zero =>
      intro i S w a3 hfi hI hZ he
      have he : w = impZ m z := he
      refine r_iload2 (pc := 2) dX0_doBestChanges_2 ?_
      refine r_iload1 (pc := 3) dX0_doBestChanges_3 ?_
      refine n_icmp_ge (pc := 4) 105 (by decide) dX0_doBestChanges_4 (by omega) (by omega) (fun hc4 => ?_) (fun hc4 => absurd hc4 (by omega))
      exact p_return (pc := 105) false rfl rfl dX0_doBestChanges_105 (Nat.zero_le _) (Nat.zero_le _) (Or.inl rfl) ⟨rfl, S, by rw [← he]; exact hI, rfl⟩
    | succ f ih =>
      intro i S w a3 hfi hI hZ he
      have hd := hZ.dims
      refine G_fgt 3 ?_
      refine r_iload2 (pc := 2) dX0_doBestChanges_2 ?_
      refine r_iload1 (pc := 3) dX0_doBestChanges_3 ?_
      refine n_icmp_ge (pc := 4) 105 (by decide) dX0_doBestChanges_4 (by omega) (by omega) (fun hc4 => absurd hc4 (by omega)) (fun hc4 => ?_)
      refine r_aload0 (pc := 7) dX0_doBestChanges_7 ?_
      refine r_getf (pc := 8) fl_X0_37 dX0_doBestChanges_8 (bget0 rfl) rfl ?_
      refine r_aload0 (pc := 11) dX0_doBestChanges_11 ?_
      refine r_callV1w (pc := 12) lk_X0_214 dX0_doBestChanges_12 (bget rfl) (s_findIn hI hZ)  (by decide) (Nat.le_of_ble_eq_true rfl) ⟨Nat.zero_le _, Nat.zero_le _⟩ (fun M9 h9 => ?_)
      obtain ⟨S, hI, hR, hB, rfl⟩ := h9
      have hok := bestZ_ok hZ
      have hv := bestZ_v (z := w)
      cases hq : bestZ w with
      | none =>
        rw [hq] at hB
        have hn : S.1 8 = iI 0 := hB.2
        refine r_aload0 (pc := 15) dX0_doBestChanges_15 ?_
        refine r_getf (pc := 16) fl_X0_37 dX0_doBestChanges_16 (bget0 rfl) rfl ?_
        refine r_getf (pc := 19) fl_X0_218 dX0_doBestChanges_19 (bget rfl) rfl ?_
        rw [hn]
        refine z_if_gt (pc := 22) 26 (by decide) dX0_doBestChanges_22 (by decide) (by decide) (fun h9 => absurd h9 (by decide)) (fun _ => ?_)
        exact p_return (pc := 25) false rfl rfl dX0_doBestChanges_25 (Nat.zero_le _) (Nat.zero_le _) (Or.inl rfl) ⟨rfl, S, by rw [← he, impZ_none hq]; exact hI, rfl⟩
      | some qq =>
        obtain ⟨n, g⟩ := qq
        have ho := hok _ hq
        have hvn := hv _ hq
        have ho1 : n < 30000 := ho.1
        have ho2 : -100000 ≤ g ∧ g ≤ 100000 := ho.2
        have hvn : VD w n := hvn
        rw [hq] at hB
        have hn : S.1 8 = iI g := hB.2
        have hc : S.1 7 = nI n := hB.1
        refine r_aload0 (pc := 15) dX0_doBestChanges_15 ?_
        refine r_getf (pc := 16) fl_X0_37 dX0_doBestChanges_16 (bget0 rfl) rfl ?_
        refine r_getf (pc := 19) fl_X0_218 dX0_doBestChanges_19 (bget rfl) rfl ?_
        rw [hn]
        refine z_if_gt (pc := 22) 26 (by decide) dX0_doBestChanges_22 (by omega) (by omega) (fun h9 => ?_) (fun h9 => ?_)
        · rw [impZ_go hq h9] at he
          refine r_aload0 (pc := 26) dX0_doBestChanges_26 ?_
          refine r_getf (pc := 27) fl_X0_37 dX0_doBestChanges_27 (bget0 rfl) rfl ?_
          refine r_getf (pc := 30) fl_X0_221 dX0_doBestChanges_30 (bget rfl) rfl ?_
          rw [hc]
          refine n_sipush (pc := 33) 10000 (by decide) dX0_doBestChanges_33 ?_
          refine n_irem (pc := 36) dX0_doBestChanges_36 (by omega) (by omega) (by omega) ?_
          refine r_istore3 (pc := 37) dX0_doBestChanges_37 rfl ?_
          refine r_aload0 (pc := 38) dX0_doBestChanges_38 ?_
          refine r_getf (pc := 39) fl_X0_37 dX0_doBestChanges_39 (bget0 rfl) rfl ?_
          refine r_getf (pc := 42) fl_X0_221 dX0_doBestChanges_42 (bget rfl) rfl ?_
          rw [hc]
          refine n_sipush (pc := 45) 10000 (by decide) dX0_doBestChanges_45 ?_
          have nxt : ∀ a3 S, InvB S (doZ w n) → ZOK (doZ w n) →
            G mX0_doBestChanges 5 (.inl false) 0 0 (tB none M b (impZ m z)) none 0 0 99 [some (.ref b), some (.int (nI m)), some (.int (nI i)), a3] [] (bset M b S)
            := by
            intro a3 S hI hZ
            refine n_iinc2 (pc := 99) dX0_doBestChanges_99 rfl ?_
            refine r_goto (pc := 102) 2 (by decide) dX0_doBestChanges_102 ?_
            exact ih (i + 1) S _ a3 (by omega) hI hZ he
          refine n_icmp_ge (pc := 48) 59 (by decide) dX0_doBestChanges_48 (by omega) (by omega) (fun h8 => ?_) (fun h8 => ?_)
          · refine r_aload0 (pc := 59) dX0_doBestChanges_59 ?_
            refine r_getf (pc := 60) fl_X0_37 dX0_doBestChanges_60 (bget0 rfl) rfl ?_
            refine r_getf (pc := 63) fl_X0_221 dX0_doBestChanges_63 (bget rfl) rfl ?_
            rw [hc]
            refine n_sipush (pc := 66) 20000 (by decide) dX0_doBestChanges_66 ?_
            refine n_icmp_ge (pc := 69) 87 (by decide) dX0_doBestChanges_69 (by omega) (by omega) (fun h7 => ?_) (fun h7 => ?_)
            · rcases hvn with hh | ⟨j, k, h1, h2, h3⟩ | ⟨p, l, h1, h2, h3⟩
              · omega
              · omega
              · have hfq := hZ.fq h1
                subst h3
                have e0 := doZ_flip hZ h1 h2
                rw [show (20000 + zF w p) % 10000 = zF w p by omega]
                obtain ⟨p2, hp2, hp3, hp4⟩ := hI.P hZ hfq
                have e2 : p2 = p := by
                  rcases hp3 with h6 | h6
                  · exact hZ.finj hp2 h1 h6
                  · exact absurd h6.symm (hZ.fno h1 hp2)
                subst e2
                refine r_aload0 (pc := 87) dX0_doBestChanges_87 ?_
                refine r_aload0 (pc := 88) dX0_doBestChanges_88 ?_
                refine r_getf (pc := 89) fl_X0_31 dX0_doBestChanges_89 (bget0 rfl) rfl ?_
                refine r_iload3 (pc := 92) dX0_doBestChanges_92 ?_
                refine r_callN2i (pc := 93) lk_X0_115 dX0_doBestChanges_93 (s_at (bget rfl) (by omega) (by decide) hp4) (by decide) (Nat.le_of_ble_eq_true rfl) ⟨Nat.zero_le _, Nat.zero_le _⟩ ?_
                refine r_callV1w (pc := 96) lk_X0_196 dX0_doBestChanges_96 (bget0 rfl) (s_flipBlock hI hZ h1 h2) (by decide) (Nat.le_of_ble_eq_true rfl) ⟨Nat.zero_le _, Nat.zero_le _⟩ (fun M9 h9 => ?_)
                obtain ⟨S, hI, rfl⟩ := h9
                exact nxt _ _ (by rw [e0]; exact hI) (by rw [e0]; exact flipZ_ok hZ h1 h2)
            · rcases hvn with hh | ⟨j, k, h1, h2, h3⟩ | ⟨p, l, h1, h2, h3⟩
              · omega
              · subst h3
                have e0 := doZ_swap (z := w) (j := j) (k := k) (by omega) (by omega)
                rw [show (10000 + 100 * j + k) % 10000 = 100 * j + k by omega]
                refine r_aload0 (pc := 72) dX0_doBestChanges_72 ?_
                refine r_iload3 (pc := 73) dX0_doBestChanges_73 ?_
                refine n_bipush (pc := 74) 100 (by decide) dX0_doBestChanges_74 ?_
                refine n_idiv (pc := 76) dX0_doBestChanges_76 (by omega) (by omega) (by omega) ?_
                refine r_iload3 (pc := 77) dX0_doBestChanges_77 ?_
                refine n_bipush (pc := 78) 100 (by decide) dX0_doBestChanges_78 ?_
                refine n_irem (pc := 80) dX0_doBestChanges_80 (by omega) (by omega) (by omega) ?_
                rw [show (100 * j + k) / 100 = j by omega, show (100 * j + k) % 100 = k by omega]
                refine r_callV2w (pc := 81) lk_X0_180 dX0_doBestChanges_81 (bget0 rfl) (s_swapPlaces hI hZ (j := j) (k := k) (by omega) h2) (by decide) (Nat.le_of_ble_eq_true rfl) ⟨Nat.zero_le _, Nat.zero_le _⟩ (fun M9 h9 => ?_)
                obtain ⟨S, hI, rfl⟩ := h9
                refine r_goto (pc := 84) 99 (by decide) dX0_doBestChanges_84 ?_
                exact nxt _ _ (by rw [e0]; exact hI) (by rw [e0]; exact swapZ_ok hZ (by omega) h2)
              · omega
          · rcases hvn with hh | ⟨j, k, h1, h2, h3⟩ | ⟨p, l, h1, h2, h3⟩
            · rw [show n % 10000 = n by omega]
              have e0 := doZ_turn (z := w) h8
              refine r_aload0 (pc := 51) dX0_doBestChanges_51 ?_
              refine r_iload3 (pc := 52) dX0_doBestChanges_52 ?_
              refine r_callV1w (pc := 53) lk_X0_171 dX0_doBestChanges_53 (bget0 rfl) (s_turnPlace hI hZ hh) (by decide) (Nat.le_of_ble_eq_true rfl) ⟨Nat.zero_le _, Nat.zero_le _⟩ (fun M9 h9 => ?_)
              obtain ⟨S, hI, rfl⟩ := h9
              refine r_goto (pc := 56) 99 (by decide) dX0_doBestChanges_56 ?_
              exact nxt _ _ (by rw [e0]; exact hI) (by rw [e0]; exact turnZ_ok hZ n)
            · omega
            · omega
        · exact p_return (pc := 25) false rfl rfl dX0_doBestChanges_25 (Nat.zero_le _) (Nat.zero_le _) (Or.inl rfl) ⟨rfl, S, by rw [← he, impZ_stop hq (by omega)]; exact hI, rfl⟩
  refine n_iconst_0 (pc := 0) dX0_doBestChanges_0 ?_
  refine r_istore2 (pc := 1) dX0_doBestChanges_1 rfl ?_
  exact lp m 0 S z none rfl hI hZ rfl
theorem doZ_ok {z : ZS} (hZ : ZOK z) {n : Nat} (hv : VD z n) : ZOK (doZ z n) := by
  have hd := hZ.dims
  rcases hv with h | ⟨j, k, h1, h2, h3⟩ | ⟨p, l, h1, h2, h3⟩
  · rw [doZ_turn (by omega)]; exact turnZ_ok hZ n
  · subst h3; rw [doZ_swap (by omega) (by omega)]; exact swapZ_ok hZ (by omega) h2
  · subst h3; rw [doZ_flip hZ h1 h2]; exact flipZ_ok hZ h1 h2
theorem impZ_ok : ∀ (f : Nat) {z : ZS}, ZOK z → ZOK (impZ f z)
  | 0, _, h => h
  | f + 1, z, h => by
    cases hq : bestZ z with
    | none => rw [impZ_none hq]; exact h
    | some q =>
      obtain ⟨n, g⟩ := q
      by_cases hg : 0 < g
      · rw [impZ_go hq hg]; exact impZ_ok f (doZ_ok h (bestZ_v _ hq))
      · rw [impZ_stop hq hg]; exact h
theorem flA_some {z : ZS} (h : ZOK z) {x y : Nat} {p : Nat × Nat} (e : flA z x y = some p) : p.1 < zt z ∧ part z p.1 = some p.2 := by
  unfold flA at e
  split at e
  · unfold canF at e
    split at e
    · cases e
    · rename_i k hk
      split at e
      · cases e
      · rename_i l hl
        split at e
        · cases e
          exact ⟨((blk_some h).mp hk).1, hl⟩
        · cases e
  · cases e
theorem flO_ok {z : ZS} (h : ZOK z) {x y : Nat} : ZOK (flO z (flA z x y)) := by
  cases e : flA z x y with
  | none => exact h
  | some p => have := flA_some h e; exact flipZ_ok h this.1 this.2
end IMPROVE

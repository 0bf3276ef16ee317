def KS (S S' : BS) : Prop := (∀ i, i < 3 → S'.1 i = S.1 i) ∧ ∀ j, j ≠ 2 → j ≠ 6 → S'.2 j = S.2 j
theorem KS.rf (S : BS) : KS S S := ⟨fun _ _ => rfl, fun _ _ _ => rfl⟩
theorem KS.tr {S S' S'' : BS} (h : KS S S') (h2 : KS S' S'') : KS S S'' := ⟨fun i hi => by rw [h2.1 i hi, h.1 i hi], fun j h3 h4 => by rw [h2.2 j h3 h4, h.2 j h3 h4]⟩
theorem KS.ii {S S' : BS} (h : KS S S') {i : Nat} (hi : 3 ≤ i) (v : Int32) : KS S (ii S' i v) := ⟨fun k hk => by rw [ii_ne (by omega)]; exact h.1 k hk, h.2⟩
theorem KS.i2 {S S' : BS} (h : KS S S') (f : Nat → Int32) : KS S (ia S' 2 f) := ⟨h.1, fun j h3 h4 => by rw [ia_ne h3]; exact h.2 j h3 h4⟩
theorem KS.i6 {S S' : BS} (h : KS S S') (f : Nat → Int32) : KS S (ia S' 6 f) := ⟨h.1, fun j h3 h4 => by rw [ia_ne h4]; exact h.2 j h3 h4⟩
theorem KS.tx {S S' : BS} (h : KS S S') {n : Nat} {f : Nat → Nat} (hT : TXm S n f) : TXm S' n f := ⟨hT.1, hT.2.1, by rw [h.1 1 (by omega)]; exact hT.2.2.1, fun i hi => by rw [h.2 0 (by omega) (by omega)]; exact hT.2.2.2 i hi⟩
theorem fw_nn {n : Nat} {f : Nat → Nat} {as bs : List Nat} {p : Nat} (h : fw n f (as ++ bs) p = none) : fw n f as p = none ∧ fw n f bs (p + as.length) = none := by
  rw [fw_append] at h
  cases ha : fw n f as p with
  | none => rw [ha] at h; exact ⟨rfl, h⟩
  | some w => rw [ha] at h; cases h
theorem fw_ss {n : Nat} {f : Nat → Nat} {as bs : List Nat} {p w : Nat} (h : fw n f (as ++ bs) p = some w) : fw n f as p = some w ∨ (fw n f as p = none ∧ fw n f bs (p + as.length) = some w) := by
  rw [fw_append] at h
  cases ha : fw n f as p with
  | none => rw [ha] at h; exact Or.inr ⟨rfl, h⟩
  | some w2 => rw [ha] at h; cases h; exact Or.inl rfl
theorem tw_99 {n p : Nat} {f : Nat → Nat} {c1 c2 : Nat} (h : fw n f [c1, c2] p = none) : tw (dg n f) p ≤ 99 := by
  have h0 := fw_none h 0 (by simp)
  have h1 := fw_none h 1 (by simp)
  exact tw_le h0.2.1 h1.2.1
theorem dg_9 {n p : Nat} {f : Nat → Nat} {c1 : Nat} (h : fw n f [c1] p = none) : dg n f p ≤ 9 := (fw_none h 0 (by simp)).2.1
def hK2 : KR 3 2 := Or.inr ⟨rfl, rfl⟩
theorem d1x : (120, 0, 7) ∈ oneD := by decide
theorem d1n : (110, 2, 6) ∈ oneD := by decide
theorem d1s : (115, 1, 2) ∈ oneD := by decide
theorem d2d : (100, 100, 0, 99) ∈ twoD := by decide
theorem d2k : (75, 107, 0, 55) ∈ twoD := by decide
theorem d2y : (89, 121, 0, 13) ∈ twoD := by decide
theorem d2c : (67, 99, 1, 20) ∈ twoD := by decide
section RCMD
variable {M : Mem} {b : Nat} {S : BS} {z : ZS} {n p o : Nat} {f : Nat → Nat}
def tC (M : Mem) (b : Nat) (S : BS) (r : Bool × ZS) (q o : Nat) : TG := tP (some (.int (bI true))) (fun Mf => ∃ S', KS S S' ∧ InvR (S'.2 2) r.2 ∧ S'.1 6 = nI q ∧ S'.1 7 = nI (o + if r.1 then 0 else 1) ∧ Mf = kset M b S')
theorem fl_nn (n : Nat) (h : n ≤ 99) : n < 2147483648 := by omega
set_option maxRecDepth 20000 in
theorem s8_readGrey (hT : TXm S n f) (hI : InvR (S.2 2) z) (hZ : ZOK z) (h6 : S.1 6 = nI (p + 1)) (h7 : S.1 7 = nI o) (hp : p ≤ 140) (hw : fw n f [120, 89, 121, 100, 100] (p + 1) = none) : SpecP mX8_readGrey 4 0 0 [.ref b, .ref (b + 3)] (kset M b S) (tC M b S (cmdZ z 112 (fun i => dg n f (p + i))) (p + 6) o) := by
  have hd := hZ.dims
  obtain ⟨w1, w23⟩ := fw_nn (as := [120]) (bs := [89, 121, 100, 100]) hw
  obtain ⟨w2, w3⟩ := fw_nn (as := [89, 121]) (bs := [100, 100]) w23
  have w2 : fw n f [89, 121] (p + 2) = none := w2
  have w3 : fw n f [100, 100] (p + 4) = none := w3
  have b1 := dg_9 w1
  have b2 := tw_99 w2
  have b3 := tw_99 w3
  refine Spec_of [some (.ref b), some (.ref (b + 3)), none, none, none] (by decide) (Nat.le_of_ble_eq_true rfl) rfl ?_
  refine r_aload0 (pc := 0) dX8_readGrey_0 ?_
  refine n_iconst_0 (pc := 1) dX8_readGrey_1 ?_
  refine n_iconst_1 (pc := 2) dX8_readGrey_2 ?_
  refine n_iconst_0 (pc := 3) dX8_readGrey_3 ?_
  refine n_bipush (pc := 4) 7 (by decide) dX8_readGrey_4 ?_
  refine r_callV4i (pc := 6) lk_X8_191 dX8_readGrey_6 (kget0 rfl) (s8_fig1 hT d1x h6 (by omega) (by omega) w1) (by decide) (Nat.le_of_ble_eq_true rfl) ⟨Nat.zero_le _, Nat.zero_le _⟩ ?_
  refine r_istore2 (pc := 9) dX8_readGrey_9 rfl ?_
  refine r_aload0 (pc := 10) dX8_readGrey_10 ?_
  refine r_iload2 (pc := 11) dX8_readGrey_11 ?_
  refine n_iconst_2 (pc := 12) dX8_readGrey_12 ?_
  refine n_iconst_0 (pc := 13) dX8_readGrey_13 ?_
  refine n_bipush (pc := 14) 13 (by decide) dX8_readGrey_14 ?_
  refine r_callV4i (pc := 16) lk_X8_191 dX8_readGrey_16 (kget0 rfl) (s8_fig2 (hT.spot (nI (p + 2))) d2y (p := p + 2) rfl (by omega) (by omega) w2) (by decide) (Nat.le_of_ble_eq_true rfl) ⟨Nat.zero_le _, Nat.zero_le _⟩ ?_
  refine r_istore3 (pc := 19) dX8_readGrey_19 rfl ?_
  rw [ii_ii]
  refine r_aload0 (pc := 20) dX8_readGrey_20 ?_
  refine r_iload3 (pc := 21) dX8_readGrey_21 ?_
  refine n_iconst_2 (pc := 22) dX8_readGrey_22 ?_
  refine n_iconst_0 (pc := 23) dX8_readGrey_23 ?_
  refine n_bipush (pc := 24) 99 (by decide) dX8_readGrey_24 ?_
  refine r_callV4i (pc := 26) lk_X8_191 dX8_readGrey_26 (kget0 rfl) (s8_fig2 (hT.spot (nI (p + 4))) d2d (p := p + 4) rfl (by omega) (by omega) w3) (by decide) (Nat.le_of_ble_eq_true rfl) ⟨Nat.zero_le _, Nat.zero_le _⟩ ?_
  refine r_istore4 (pc := 29) dX8_readGrey_29 rfl ?_
  rw [ii_ii]
  refine r_iload4 (pc := 31) dX8_readGrey_31 ?_
  refine r_iconst_m1 (pc := 33) dX8_readGrey_33 ?_
  refine r_icmp_eq (pc := 34) 73 (by decide) dX8_readGrey_34 (fun h9 => absurd h9 (nI_ne_m1 (by omega))) (fun _ => ?_)
  have fin : ∀ (v : Bool) (w : ZS) (S1 : BS), KS S S1 → InvR (S1.2 2) w → S1.1 6 = nI (p + 6) → S1.1 7 = nI o → cmdZ z 112 (fun i => dg n f (p + i)) = (v, w) →
    G mX8_readGrey 4 (.inl false) 0 0 (tC M b S (cmdZ z 112 (fun i => dg n f (p + i))) (p + 6) o) none 0 0 63 [some (.ref b), some (.ref (b + 3)), some (.int (nI (dg n f (p + 1)))), some (.int (nI (tw (dg n f) (p + 2)))), some (.int (nI (tw (dg n f) (p + 4))))] [.int (bI v), .ref b] (kset M b S1)
    := by
    intro v w S1 k1 k2 k3 k4 k5
    refine r_callV1i (pc := 63) lk_X8_198 dX8_readGrey_63 (kget0 rfl) (s8_done k4) (by decide) (Nat.le_of_ble_eq_true rfl) ⟨Nat.zero_le _, Nat.zero_le _⟩ ?_
    refine b_if_eq (b := true) (pc := 66) 73 (by decide) dX8_readGrey_66 (fun h9 => by cases h9) (fun _ => ?_)
    refine n_iconst_1 (pc := 69) dX8_readGrey_69 ?_
    refine r_goto (pc := 70) 74 (by decide) dX8_readGrey_70 ?_
    refine p_ireturn (pc := 74) false rfl rfl (by decide) dX8_readGrey_74 (Nat.zero_le _) (Nat.zero_le _) (Or.inl rfl) ?_
    rw [k5]
    exact ⟨rfl, _, k1.ii (by omega) _, k2, by rw [ii_ne (by omega)]; exact k3, rfl, rfl⟩
  have e0 : cmdZ z 112 (fun i => dg n f (p + i)) = (canG z (dg n f (p + 1)) (tw (dg n f) (p + 2)) (tw (dg n f) (p + 4)), aG z (dg n f (p + 1)) (tw (dg n f) (p + 2)) (tw (dg n f) (p + 4))) := rfl
  have hM : kset M b (ii S 6 (nI (p + 6))) (b + 3) = some (cI 563 (S.2 2)) := kget rfl
  refine r_aload0 (pc := 37) dX8_readGrey_37 ?_
  refine r_aload1 (pc := 38) dX8_readGrey_38 ?_
  refine r_iload2 (pc := 39) dX8_readGrey_39 ?_
  refine r_iload3 (pc := 40) dX8_readGrey_40 ?_
  refine r_callS3i (pc := 41) lk_X8_158 dX8_readGrey_41 (s8_isSquare hM hI hZ) (by decide) (Nat.le_of_ble_eq_true rfl) ⟨Nat.zero_le _, Nat.zero_le _⟩ ?_
  rw [inR_nI (by omega) (by omega), inR_nI (by omega) (by omega)]
  have KS1 : KS S (ii S 6 (nI (p + 6))) := (KS.rf S).ii (by omega) _
  refine b_if_eq (pc := 44) 62 (by decide) dX8_readGrey_44 (fun h1 => ?_) (fun h1 => ?_)
  · refine n_iconst_0 (pc := 62) dX8_readGrey_62 ?_
    refine fin false z _ KS1 hI rfl h7 ?_
    rw [e0]
    have ec : canG z (dg n f (p + 1)) (tw (dg n f) (p + 2)) (tw (dg n f) (p + 4)) = false := by
      unfold canG; rw [h1]; rfl
    rw [ec]
    unfold aG
    rw [ec]; rfl
  · have h3 : dg n f (p + 1) < zc z ∧ tw (dg n f) (p + 2) < zr z := by simpa using h1
    have ec : canG z (dg n f (p + 1)) (tw (dg n f) (p + 2)) (tw (dg n f) (p + 4)) = true := by
      unfold canG; rw [h1]; simpa using (show tw (dg n f) (p + 4) < 100 by omega)
    have hgr := hZ.g (sq_in h3.1 h3.2)
    have em : tw (dg n f) (p + 2) * zc z + dg n f (p + 1) = zc z * tw (dg n f) (p + 2) + dg n f (p + 1) := by rw [Nat.mul_comm]
    refine r_aload1 (pc := 47) dX8_readGrey_47 ?_
    refine r_iload2 (pc := 48) dX8_readGrey_48 ?_
    refine r_iload3 (pc := 49) dX8_readGrey_49 ?_
    refine r_iload4 (pc := 50) dX8_readGrey_50 ?_
    refine r_callS4x (pc := 52) lk_X8_195 dX8_readGrey_52 (hK2.to (M := M) (b := b) (S := ii S 6 (nI (p + 6))) (s8_greyOn (g := tw (dg n f) (p + 4)) hI hZ h3.1 h3.2))  (by decide) (Nat.le_of_ble_eq_true rfl) ⟨Nat.zero_le _, Nat.zero_le _⟩ (fun M9 h9 => ?_)
    obtain ⟨f', hI', rfl⟩ := h9
    rw [em]
    refine n_if_lt (pc := 55) 62 (by decide) dX8_readGrey_55 (by omega) ?_
    refine n_iconst_1 (pc := 58) dX8_readGrey_58 ?_
    refine r_goto (pc := 59) 63 (by decide) dX8_readGrey_59 ?_
    refine fin true _ _ (KS1.i2 f') hI' rfl h7 ?_
    rw [e0, ec]
    unfold aG
    rw [ec]; rfl
theorem s8_readGreyN {w : Nat} (hT : TXm S n f) (h6 : S.1 6 = nI (p + 1)) (hp : p ≤ 140) (hw : fw n f [120, 89, 121, 100, 100] (p + 1) = some w) : Spec mX8_readGrey 4 0 0 [.ref b, .ref (b + 3)] (kset M b S) (some (.int (bI false))) (kset M b (ii S 6 (nI w))) := by
  refine Spec_of [some (.ref b), some (.ref (b + 3)), none, none, none] (by decide) (Nat.le_of_ble_eq_true rfl) rfl ?_
  have fin : ∀ l2 l3,
    G mX8_readGrey 4 (.inl false) 0 0 (dT (some (.int (bI false))) (kset M b (ii S 6 (nI w)))) none 0 0 31 [some (.ref b), some (.ref (b + 3)), l2, l3, some (.int (-1))] [] (kset M b (ii S 6 (nI w)))
    := by
    intro l2 l3
    refine r_iload4 (pc := 31) dX8_readGrey_31 ?_
    refine r_iconst_m1 (pc := 33) dX8_readGrey_33 ?_
    refine r_icmp_eq (pc := 34) 73 (by decide) dX8_readGrey_34 (fun _ => ?_) (fun h9 => absurd rfl h9)
    refine n_iconst_0 (pc := 73) dX8_readGrey_73 ?_
    exact r_ireturn (pc := 74) false rfl rfl (by decide) dX8_readGrey_74 (Nat.zero_le _) (Nat.zero_le _) (Or.inl rfl) rfl rfl rfl
  rcases fw_ss (as := [120]) (bs := [89, 121, 100, 100]) hw with w1 | ⟨w1, w23⟩
  · refine r_aload0 (pc := 0) dX8_readGrey_0 ?_
    refine n_iconst_0 (pc := 1) dX8_readGrey_1 ?_
    refine n_iconst_1 (pc := 2) dX8_readGrey_2 ?_
    refine n_iconst_0 (pc := 3) dX8_readGrey_3 ?_
    refine n_bipush (pc := 4) 7 (by decide) dX8_readGrey_4 ?_
    refine r_callV4i (pc := 6) lk_X8_191 dX8_readGrey_6 (kget0 rfl) (s8_fig1N hT d1x h6 (by omega) (by omega) w1) (by decide) (Nat.le_of_ble_eq_true rfl) ⟨Nat.zero_le _, Nat.zero_le _⟩ ?_
    refine r_istore2 (pc := 9) dX8_readGrey_9 rfl ?_
    refine r_aload0 (pc := 10) dX8_readGrey_10 ?_
    refine r_iload2 (pc := 11) dX8_readGrey_11 ?_
    refine n_iconst_2 (pc := 12) dX8_readGrey_12 ?_
    refine n_iconst_0 (pc := 13) dX8_readGrey_13 ?_
    refine n_bipush (pc := 14) 13 (by decide) dX8_readGrey_14 ?_
    refine r_callV4i (pc := 16) lk_X8_191 dX8_readGrey_16 (kget0 rfl) (s8_figNo (by omega)) (by decide) (Nat.le_of_ble_eq_true rfl) ⟨Nat.zero_le _, Nat.zero_le _⟩ ?_
    refine r_istore3 (pc := 19) dX8_readGrey_19 rfl ?_
    refine r_aload0 (pc := 20) dX8_readGrey_20 ?_
    refine r_iload3 (pc := 21) dX8_readGrey_21 ?_
    refine n_iconst_2 (pc := 22) dX8_readGrey_22 ?_
    refine n_iconst_0 (pc := 23) dX8_readGrey_23 ?_
    refine n_bipush (pc := 24) 99 (by decide) dX8_readGrey_24 ?_
    refine r_callV4i (pc := 26) lk_X8_191 dX8_readGrey_26 (kget0 rfl) (s8_figNo (by omega)) (by decide) (Nat.le_of_ble_eq_true rfl) ⟨Nat.zero_le _, Nat.zero_le _⟩ ?_
    refine r_istore4 (pc := 29) dX8_readGrey_29 rfl ?_
    exact fin _ _
  · have b1 := dg_9 w1
    rcases fw_ss (as := [89, 121]) (bs := [100, 100]) w23 with w2 | ⟨w2, w3⟩
    · have w2 : fw n f [89, 121] (p + 2) = some w := w2
      refine r_aload0 (pc := 0) dX8_readGrey_0 ?_
      refine n_iconst_0 (pc := 1) dX8_readGrey_1 ?_
      refine n_iconst_1 (pc := 2) dX8_readGrey_2 ?_
      refine n_iconst_0 (pc := 3) dX8_readGrey_3 ?_
      refine n_bipush (pc := 4) 7 (by decide) dX8_readGrey_4 ?_
      refine r_callV4i (pc := 6) lk_X8_191 dX8_readGrey_6 (kget0 rfl) (s8_fig1 hT d1x h6 (by omega) (by omega) w1) (by decide) (Nat.le_of_ble_eq_true rfl) ⟨Nat.zero_le _, Nat.zero_le _⟩ ?_
      refine r_istore2 (pc := 9) dX8_readGrey_9 rfl ?_
      refine r_aload0 (pc := 10) dX8_readGrey_10 ?_
      refine r_iload2 (pc := 11) dX8_readGrey_11 ?_
      refine n_iconst_2 (pc := 12) dX8_readGrey_12 ?_
      refine n_iconst_0 (pc := 13) dX8_readGrey_13 ?_
      refine n_bipush (pc := 14) 13 (by decide) dX8_readGrey_14 ?_
      refine r_callV4i (pc := 16) lk_X8_191 dX8_readGrey_16 (kget0 rfl) (s8_fig2N (hT.spot (nI (p + 2))) d2y (p := p + 2) rfl (by omega) (by omega) w2) (by decide) (Nat.le_of_ble_eq_true rfl) ⟨Nat.zero_le _, Nat.zero_le _⟩ ?_
      refine r_istore3 (pc := 19) dX8_readGrey_19 rfl ?_
      rw [ii_ii]
      refine r_aload0 (pc := 20) dX8_readGrey_20 ?_
      refine r_iload3 (pc := 21) dX8_readGrey_21 ?_
      refine n_iconst_2 (pc := 22) dX8_readGrey_22 ?_
      refine n_iconst_0 (pc := 23) dX8_readGrey_23 ?_
      refine n_bipush (pc := 24) 99 (by decide) dX8_readGrey_24 ?_
      refine r_callV4i (pc := 26) lk_X8_191 dX8_readGrey_26 (kget0 rfl) (s8_figNo (by omega)) (by decide) (Nat.le_of_ble_eq_true rfl) ⟨Nat.zero_le _, Nat.zero_le _⟩ ?_
      refine r_istore4 (pc := 29) dX8_readGrey_29 rfl ?_
      exact fin _ _
    · have w2 : fw n f [89, 121] (p + 2) = none := w2
      have w3 : fw n f [100, 100] (p + 4) = some w := w3
      have b2 := tw_99 w2
      refine r_aload0 (pc := 0) dX8_readGrey_0 ?_
      refine n_iconst_0 (pc := 1) dX8_readGrey_1 ?_
      refine n_iconst_1 (pc := 2) dX8_readGrey_2 ?_
      refine n_iconst_0 (pc := 3) dX8_readGrey_3 ?_
      refine n_bipush (pc := 4) 7 (by decide) dX8_readGrey_4 ?_
      refine r_callV4i (pc := 6) lk_X8_191 dX8_readGrey_6 (kget0 rfl) (s8_fig1 hT d1x h6 (by omega) (by omega) w1) (by decide) (Nat.le_of_ble_eq_true rfl) ⟨Nat.zero_le _, Nat.zero_le _⟩ ?_
      refine r_istore2 (pc := 9) dX8_readGrey_9 rfl ?_
      refine r_aload0 (pc := 10) dX8_readGrey_10 ?_
      refine r_iload2 (pc := 11) dX8_readGrey_11 ?_
      refine n_iconst_2 (pc := 12) dX8_readGrey_12 ?_
      refine n_iconst_0 (pc := 13) dX8_readGrey_13 ?_
      refine n_bipush (pc := 14) 13 (by decide) dX8_readGrey_14 ?_
      refine r_callV4i (pc := 16) lk_X8_191 dX8_readGrey_16 (kget0 rfl) (s8_fig2 (hT.spot (nI (p + 2))) d2y (p := p + 2) rfl (by omega) (by omega) w2) (by decide) (Nat.le_of_ble_eq_true rfl) ⟨Nat.zero_le _, Nat.zero_le _⟩ ?_
      refine r_istore3 (pc := 19) dX8_readGrey_19 rfl ?_
      rw [ii_ii]
      refine r_aload0 (pc := 20) dX8_readGrey_20 ?_
      refine r_iload3 (pc := 21) dX8_readGrey_21 ?_
      refine n_iconst_2 (pc := 22) dX8_readGrey_22 ?_
      refine n_iconst_0 (pc := 23) dX8_readGrey_23 ?_
      refine n_bipush (pc := 24) 99 (by decide) dX8_readGrey_24 ?_
      refine r_callV4i (pc := 26) lk_X8_191 dX8_readGrey_26 (kget0 rfl) (s8_fig2N (hT.spot (nI (p + 4))) d2d (p := p + 4) rfl (by omega) (by omega) w3) (by decide) (Nat.le_of_ble_eq_true rfl) ⟨Nat.zero_le _, Nat.zero_le _⟩ ?_
      refine r_istore4 (pc := 29) dX8_readGrey_29 rfl ?_
      rw [ii_ii]
      exact fin _ _
set_option maxRecDepth 20000 in
theorem s8_rcBad (hT : TXm S n f) (h6 : S.1 6 = nI p) (hp : p < n) (hk : cmK (f p) = none) : Spec mX8_readCommand 10 0 0 [.ref b, .ref (b + 3)] (kset M b S) (some (.int (bI false))) (kset M b S) := by
  have hf := hT.2.1 p hp
  have hn := hT.1
  have ht := hT.2.2.2 p hp
  refine Spec_of [some (.ref b), some (.ref (b + 3)), none, none, none] (by decide) (Nat.le_of_ble_eq_true rfl) rfl ?_
  generalize f p = c at *
  refine r_aload0 (pc := 0) dX8_readCommand_0 ?_
  refine r_getf (pc := 1) fl_X8_7 dX8_readCommand_1 (kget0 rfl) rfl ?_
  refine r_aload0 (pc := 4) dX8_readCommand_4 ?_
  refine r_getf (pc := 5) fl_X8_171 dX8_readCommand_5 (kget0 rfl) rfl ?_
  rw [h6]
  refine n_iald (pc := 8) dX8_readCommand_8 (kget rfl) (by omega) (by decide) ht ?_
  refine r_istore2 (pc := 9) dX8_readCommand_9 rfl ?_
  refine r_aload0 (pc := 10) dX8_readCommand_10 ?_
  refine r_dup (pc := 11) dX8_readCommand_11 rfl ?_
  refine r_getf (pc := 12) fl_X8_171 dX8_readCommand_12 (kget0 rfl) rfl ?_
  rw [h6]
  refine n_iconst_1 (pc := 15) dX8_readCommand_15 ?_
  first | refine n_iadd (pc := 16) dX8_readCommand_16 ?_ | refine z_iadd (pc := 16) dX8_readCommand_16 ?_ | refine r_iadd (pc := 16) dX8_readCommand_16 ?_
  refine r_putfI (pc := 17) fl_X8_171 dX8_readCommand_17 (kget0 rfl) (Nat.le_of_ble_eq_true rfl) ?_
  refine G_M bii_X8_13 ?_
  refine r_iload2 (pc := 20) dX8_readCommand_20 ?_
  have h66 : (ii S 6 (nI (p + 1))).1 6 = nI (p + 1) := rfl
  have fin :
    G mX8_readCommand 10 (.inl false) 0 0 (dT (some (.int (bI false))) (kset M b S)) none 0 0 398 [some (.ref b), some (.ref (b + 3)), some (.int (nI c)), none, none] [] (kset M b (ii S 6 (nI (p + 1))))
    := by
    refine r_aload0 (pc := 398) dX8_readCommand_398 ?_
    refine r_dup (pc := 399) dX8_readCommand_399 rfl ?_
    refine r_getf (pc := 400) fl_X8_171 dX8_readCommand_400 (kget0 rfl) rfl ?_
    rw [h66]
    refine n_iconst_1 (pc := 403) dX8_readCommand_403 ?_
    refine n_isub (pc := 404) dX8_readCommand_404 (by omega) ?_
    refine r_putfI (pc := 405) fl_X8_171 dX8_readCommand_405 (kget0 rfl) (Nat.le_of_ble_eq_true rfl) ?_
    refine G_M bii_X8_13 ?_
    rw [show p + 1 - 1 = p by omega, ii_ii]
    refine n_iconst_0 (pc := 408) dX8_readCommand_408 ?_
    exact r_ireturn (pc := 409) false rfl rfl (by decide) dX8_readCommand_409 (Nat.zero_le _) (Nat.zero_le _) (Or.inl rfl) rfl rfl (by rw [ii_self h6])
  have cc : c < 98 ∨ 116 < c ∨ c = 99 ∨ c = 100 ∨ c = 101 ∨ c = 103 ∨ c = 106 ∨ c = 107 ∨ c = 109 ∨ c = 110 ∨ c = 111 ∨ c = 113 ∨ c = 114 := by
    refine Classical.byContradiction (fun q => ?_)
    have e : c = 98 ∨ c = 102 ∨ c = 104 ∨ c = 105 ∨ c = 108 ∨ c = 112 ∨ c = 115 ∨ c = 116 := by omega
    rcases e with e | e | e | e | e | e | e | e <;> (subst e; exact absurd hk (by decide))
  rcases cc with e | e | e | e | e | e | e | e | e | e | e | e | e
  · exact r_tableOut (pc := 21) 398 (Or.inl (by rw [nI_toInt (by omega)]; omega)) (by decide) dX8_readCommand_21 fin
  · exact r_tableOut (pc := 21) 398 (Or.inr (by rw [nI_toInt (by omega)]; omega)) (by decide) dX8_readCommand_21 fin
  · subst e; exact r_tableIn (pc := 21) 398 (by decide) (by decide) rfl (by decide) dX8_readCommand_21 fin
  · subst e; exact r_tableIn (pc := 21) 398 (by decide) (by decide) rfl (by decide) dX8_readCommand_21 fin
  · subst e; exact r_tableIn (pc := 21) 398 (by decide) (by decide) rfl (by decide) dX8_readCommand_21 fin
  · subst e; exact r_tableIn (pc := 21) 398 (by decide) (by decide) rfl (by decide) dX8_readCommand_21 fin
  · subst e; exact r_tableIn (pc := 21) 398 (by decide) (by decide) rfl (by decide) dX8_readCommand_21 fin
  · subst e; exact r_tableIn (pc := 21) 398 (by decide) (by decide) rfl (by decide) dX8_readCommand_21 fin
  · subst e; exact r_tableIn (pc := 21) 398 (by decide) (by decide) rfl (by decide) dX8_readCommand_21 fin
  · subst e; exact r_tableIn (pc := 21) 398 (by decide) (by decide) rfl (by decide) dX8_readCommand_21 fin
  · subst e; exact r_tableIn (pc := 21) 398 (by decide) (by decide) rfl (by decide) dX8_readCommand_21 fin
  · subst e; exact r_tableIn (pc := 21) 398 (by decide) (by decide) rfl (by decide) dX8_readCommand_21 fin
  · subst e; exact r_tableIn (pc := 21) 398 (by decide) (by decide) rfl (by decide) dX8_readCommand_21 fin
set_option maxRecDepth 20000 in
theorem s8_rcNo {w : Nat} {ks : List Nat} (hT : TXm S n f) (h6 : S.1 6 = nI p) (hp : p < n) (hk : cmK (f p) = some ks) (hw : fw n f ks (p + 1) = some w) : Spec mX8_readCommand 10 0 0 [.ref b, .ref (b + 3)] (kset M b S) (some (.int (bI false))) (kset M b (ii S 6 (nI w))) := by
  have hf := hT.2.1 p hp
  have hn := hT.1
  have ht := hT.2.2.2 p hp
  refine Spec_of [some (.ref b), some (.ref (b + 3)), none, none, none] (by decide) (Nat.le_of_ble_eq_true rfl) rfl ?_
  generalize f p = c at *
  refine r_aload0 (pc := 0) dX8_readCommand_0 ?_
  refine r_getf (pc := 1) fl_X8_7 dX8_readCommand_1 (kget0 rfl) rfl ?_
  refine r_aload0 (pc := 4) dX8_readCommand_4 ?_
  refine r_getf (pc := 5) fl_X8_171 dX8_readCommand_5 (kget0 rfl) rfl ?_
  rw [h6]
  refine n_iald (pc := 8) dX8_readCommand_8 (kget rfl) (by omega) (by decide) ht ?_
  refine r_istore2 (pc := 9) dX8_readCommand_9 rfl ?_
  refine r_aload0 (pc := 10) dX8_readCommand_10 ?_
  refine r_dup (pc := 11) dX8_readCommand_11 rfl ?_
  refine r_getf (pc := 12) fl_X8_171 dX8_readCommand_12 (kget0 rfl) rfl ?_
  rw [h6]
  refine n_iconst_1 (pc := 15) dX8_readCommand_15 ?_
  first | refine n_iadd (pc := 16) dX8_readCommand_16 ?_ | refine z_iadd (pc := 16) dX8_readCommand_16 ?_ | refine r_iadd (pc := 16) dX8_readCommand_16 ?_
  refine r_putfI (pc := 17) fl_X8_171 dX8_readCommand_17 (kget0 rfl) (Nat.le_of_ble_eq_true rfl) ?_
  refine G_M bii_X8_13 ?_
  refine r_iload2 (pc := 20) dX8_readCommand_20 ?_
  have hT1 := hT.spot (nI (p + 1))
  have c0 : c = 112 ∨ c = 102 ∨ c = 116 ∨ c = 115 ∨ c = 98 ∨ c = 104 ∨ c = 108 ∨ c = 105 := by
    refine Classical.byContradiction (fun q => ?_)
    unfold cmK at hk
    rw [if_neg (by omega), if_neg (by omega), if_neg (by omega), if_neg (by omega), if_neg (by omega), if_neg (by omega), if_neg (by omega), if_neg (by omega)] at hk
    cases hk
  rcases c0 with e | e | e | e | e | e | e | e <;> subst e <;> cases hk
  · refine r_tableIn (pc := 21) 112 (by decide) (by decide) rfl (by decide) dX8_readCommand_21 ?_
    refine r_aload0 (pc := 112) dX8_readCommand_112 ?_
    refine r_aload1 (pc := 113) dX8_readCommand_113 ?_
    refine r_callV1i (pc := 114) lk_X8_202 dX8_readCommand_114 (kget0 rfl) (s8_readGreyN hT1 (p := p) rfl (by omega) hw) (by decide) (Nat.le_of_ble_eq_true rfl) ⟨Nat.zero_le _, Nat.zero_le _⟩ ?_
    rw [ii_ii]
    exact r_ireturn (pc := 117) false rfl rfl (by decide) dX8_readCommand_117 (Nat.zero_le _) (Nat.zero_le _) (Or.inl rfl) rfl rfl rfl
  · have fin : ∀ l3,
      G mX8_readCommand 10 (.inl false) 0 0 (dT (some (.int (bI false))) (kset M b (ii S 6 (nI w)))) none 0 0 139 [some (.ref b), some (.ref (b + 3)), some (.int (nI 102)), l3, some (.int (-1))] [] (kset M b (ii S 6 (nI w)))
      := by
      intro l3
      refine r_iload4 (pc := 139) dX8_readCommand_139 ?_
      refine r_iconst_m1 (pc := 141) dX8_readCommand_141 ?_
      refine r_icmp_eq (pc := 142) 164 (by decide) dX8_readCommand_142 (fun _ => ?_) (fun h9 => absurd rfl h9)
      refine n_iconst_0 (pc := 164) dX8_readCommand_164 ?_
      exact r_ireturn (pc := 165) false rfl rfl (by decide) dX8_readCommand_165 (Nat.zero_le _) (Nat.zero_le _) (Or.inl rfl) rfl rfl rfl
    rcases fw_ss (as := [100, 100]) (bs := [100, 100]) hw with w1 | ⟨w1, w2⟩
    · refine r_tableIn (pc := 21) 118 (by decide) (by decide) rfl (by decide) dX8_readCommand_21 ?_
      refine r_aload0 (pc := 118) dX8_readCommand_118 ?_
      refine n_iconst_0 (pc := 119) dX8_readCommand_119 ?_
      refine n_iconst_2 (pc := 120) dX8_readCommand_120 ?_
      refine n_iconst_0 (pc := 121) dX8_readCommand_121 ?_
      refine n_bipush (pc := 122) 99 (by decide) dX8_readCommand_122 ?_
      refine r_callV4i (pc := 124) lk_X8_191 dX8_readCommand_124 (kget0 rfl) (s8_fig2N hT1 d2d (p := p + 1) rfl (by omega) (by omega) w1) (by decide) (Nat.le_of_ble_eq_true rfl) ⟨Nat.zero_le _, Nat.zero_le _⟩ ?_
      refine r_istore3 (pc := 127) dX8_readCommand_127 rfl ?_
      rw [ii_ii]
      refine r_aload0 (pc := 128) dX8_readCommand_128 ?_
      refine r_iload3 (pc := 129) dX8_readCommand_129 ?_
      refine n_iconst_2 (pc := 130) dX8_readCommand_130 ?_
      refine n_iconst_0 (pc := 131) dX8_readCommand_131 ?_
      refine n_bipush (pc := 132) 99 (by decide) dX8_readCommand_132 ?_
      refine r_callV4i (pc := 134) lk_X8_191 dX8_readCommand_134 (kget0 rfl) (s8_figNo (by omega)) (by decide) (Nat.le_of_ble_eq_true rfl) ⟨Nat.zero_le _, Nat.zero_le _⟩ ?_
      refine r_istore4 (pc := 137) dX8_readCommand_137 rfl ?_
      exact fin _
    · have b1 := tw_99 w1
      have w2 : fw n f [100, 100] (p + 3) = some w := w2
      refine r_tableIn (pc := 21) 118 (by decide) (by decide) rfl (by decide) dX8_readCommand_21 ?_
      refine r_aload0 (pc := 118) dX8_readCommand_118 ?_
      refine n_iconst_0 (pc := 119) dX8_readCommand_119 ?_
      refine n_iconst_2 (pc := 120) dX8_readCommand_120 ?_
      refine n_iconst_0 (pc := 121) dX8_readCommand_121 ?_
      refine n_bipush (pc := 122) 99 (by decide) dX8_readCommand_122 ?_
      refine r_callV4i (pc := 124) lk_X8_191 dX8_readCommand_124 (kget0 rfl) (s8_fig2 hT1 d2d (p := p + 1) rfl (by omega) (by omega) w1) (by decide) (Nat.le_of_ble_eq_true rfl) ⟨Nat.zero_le _, Nat.zero_le _⟩ ?_
      refine r_istore3 (pc := 127) dX8_readCommand_127 rfl ?_
      rw [ii_ii]
      refine r_aload0 (pc := 128) dX8_readCommand_128 ?_
      refine r_iload3 (pc := 129) dX8_readCommand_129 ?_
      refine n_iconst_2 (pc := 130) dX8_readCommand_130 ?_
      refine n_iconst_0 (pc := 131) dX8_readCommand_131 ?_
      refine n_bipush (pc := 132) 99 (by decide) dX8_readCommand_132 ?_
      refine r_callV4i (pc := 134) lk_X8_191 dX8_readCommand_134 (kget0 rfl) (s8_fig2N (hT.spot (nI (p + 3))) d2d (p := p + 3) rfl (by omega) (by omega) w2) (by decide) (Nat.le_of_ble_eq_true rfl) ⟨Nat.zero_le _, Nat.zero_le _⟩ ?_
      refine r_istore4 (pc := 137) dX8_readCommand_137 rfl ?_
      rw [ii_ii]
      exact fin _
  · refine r_tableIn (pc := 21) 166 (by decide) (by decide) rfl (by decide) dX8_readCommand_21 ?_
    refine r_aload0 (pc := 166) dX8_readCommand_166 ?_
    refine n_iconst_0 (pc := 167) dX8_readCommand_167 ?_
    refine n_iconst_2 (pc := 168) dX8_readCommand_168 ?_
    refine n_iconst_0 (pc := 169) dX8_readCommand_169 ?_
    refine n_bipush (pc := 170) 55 (by decide) dX8_readCommand_170 ?_
    refine r_callV4i (pc := 172) lk_X8_191 dX8_readCommand_172 (kget0 rfl) (s8_fig2N hT1 d2k (p := p + 1) rfl (by omega) (by omega) hw) (by decide) (Nat.le_of_ble_eq_true rfl) ⟨Nat.zero_le _, Nat.zero_le _⟩ ?_
    refine r_istore3 (pc := 175) dX8_readCommand_175 rfl ?_
    rw [ii_ii]
    refine r_iload3 (pc := 176) dX8_readCommand_176 ?_
    refine r_iconst_m1 (pc := 177) dX8_readCommand_177 ?_
    refine r_icmp_eq (pc := 178) 198 (by decide) dX8_readCommand_178 (fun _ => ?_) (fun h9 => absurd rfl h9)
    refine n_iconst_0 (pc := 198) dX8_readCommand_198 ?_
    exact r_ireturn (pc := 199) false rfl rfl (by decide) dX8_readCommand_199 (Nat.zero_le _) (Nat.zero_le _) (Or.inl rfl) rfl rfl rfl
  · have fin : ∀ l3,
      G mX8_readCommand 10 (.inl false) 0 0 (dT (some (.int (bI false))) (kset M b (ii S 6 (nI w)))) none 0 0 221 [some (.ref b), some (.ref (b + 3)), some (.int (nI 115)), l3, some (.int (-1))] [] (kset M b (ii S 6 (nI w)))
      := by
      intro l3
      refine r_iload4 (pc := 221) dX8_readCommand_221 ?_
      refine r_iconst_m1 (pc := 223) dX8_readCommand_223 ?_
      refine r_icmp_eq (pc := 224) 246 (by decide) dX8_readCommand_224 (fun _ => ?_) (fun h9 => absurd rfl h9)
      refine n_iconst_0 (pc := 246) dX8_readCommand_246 ?_
      exact r_ireturn (pc := 247) false rfl rfl (by decide) dX8_readCommand_247 (Nat.zero_le _) (Nat.zero_le _) (Or.inl rfl) rfl rfl rfl
    rcases fw_ss (as := [75, 107]) (bs := [75, 107]) hw with w1 | ⟨w1, w2⟩
    · refine r_tableIn (pc := 21) 200 (by decide) (by decide) rfl (by decide) dX8_readCommand_21 ?_
      refine r_aload0 (pc := 200) dX8_readCommand_200 ?_
      refine n_iconst_0 (pc := 201) dX8_readCommand_201 ?_
      refine n_iconst_2 (pc := 202) dX8_readCommand_202 ?_
      refine n_iconst_0 (pc := 203) dX8_readCommand_203 ?_
      refine n_bipush (pc := 204) 55 (by decide) dX8_readCommand_204 ?_
      refine r_callV4i (pc := 206) lk_X8_191 dX8_readCommand_206 (kget0 rfl) (s8_fig2N hT1 d2k (p := p + 1) rfl (by omega) (by omega) w1) (by decide) (Nat.le_of_ble_eq_true rfl) ⟨Nat.zero_le _, Nat.zero_le _⟩ ?_
      refine r_istore3 (pc := 209) dX8_readCommand_209 rfl ?_
      rw [ii_ii]
      refine r_aload0 (pc := 210) dX8_readCommand_210 ?_
      refine r_iload3 (pc := 211) dX8_readCommand_211 ?_
      refine n_iconst_2 (pc := 212) dX8_readCommand_212 ?_
      refine n_iconst_0 (pc := 213) dX8_readCommand_213 ?_
      refine n_bipush (pc := 214) 55 (by decide) dX8_readCommand_214 ?_
      refine r_callV4i (pc := 216) lk_X8_191 dX8_readCommand_216 (kget0 rfl) (s8_figNo (by omega)) (by decide) (Nat.le_of_ble_eq_true rfl) ⟨Nat.zero_le _, Nat.zero_le _⟩ ?_
      refine r_istore4 (pc := 219) dX8_readCommand_219 rfl ?_
      exact fin _
    · have b1 := tw_99 w1
      have w2 : fw n f [75, 107] (p + 3) = some w := w2
      refine r_tableIn (pc := 21) 200 (by decide) (by decide) rfl (by decide) dX8_readCommand_21 ?_
      refine r_aload0 (pc := 200) dX8_readCommand_200 ?_
      refine n_iconst_0 (pc := 201) dX8_readCommand_201 ?_
      refine n_iconst_2 (pc := 202) dX8_readCommand_202 ?_
      refine n_iconst_0 (pc := 203) dX8_readCommand_203 ?_
      refine n_bipush (pc := 204) 55 (by decide) dX8_readCommand_204 ?_
      refine r_callV4i (pc := 206) lk_X8_191 dX8_readCommand_206 (kget0 rfl) (s8_fig2 hT1 d2k (p := p + 1) rfl (by omega) (by omega) w1) (by decide) (Nat.le_of_ble_eq_true rfl) ⟨Nat.zero_le _, Nat.zero_le _⟩ ?_
      refine r_istore3 (pc := 209) dX8_readCommand_209 rfl ?_
      rw [ii_ii]
      refine r_aload0 (pc := 210) dX8_readCommand_210 ?_
      refine r_iload3 (pc := 211) dX8_readCommand_211 ?_
      refine n_iconst_2 (pc := 212) dX8_readCommand_212 ?_
      refine n_iconst_0 (pc := 213) dX8_readCommand_213 ?_
      refine n_bipush (pc := 214) 55 (by decide) dX8_readCommand_214 ?_
      refine r_callV4i (pc := 216) lk_X8_191 dX8_readCommand_216 (kget0 rfl) (s8_fig2N (hT.spot (nI (p + 3))) d2k (p := p + 3) rfl (by omega) (by omega) w2) (by decide) (Nat.le_of_ble_eq_true rfl) ⟨Nat.zero_le _, Nat.zero_le _⟩ ?_
      refine r_istore4 (pc := 219) dX8_readCommand_219 rfl ?_
      rw [ii_ii]
      exact fin _
  · have fin : ∀ l3,
      G mX8_readCommand 10 (.inl false) 0 0 (dT (some (.int (bI false))) (kset M b (ii S 6 (nI w)))) none 0 0 269 [some (.ref b), some (.ref (b + 3)), some (.int (nI 98)), l3, some (.int (-1))] [] (kset M b (ii S 6 (nI w)))
      := by
      intro l3
      refine r_iload4 (pc := 269) dX8_readCommand_269 ?_
      refine r_iconst_m1 (pc := 271) dX8_readCommand_271 ?_
      refine r_icmp_eq (pc := 272) 294 (by decide) dX8_readCommand_272 (fun _ => ?_) (fun h9 => absurd rfl h9)
      refine n_iconst_0 (pc := 294) dX8_readCommand_294 ?_
      exact r_ireturn (pc := 295) false rfl rfl (by decide) dX8_readCommand_295 (Nat.zero_le _) (Nat.zero_le _) (Or.inl rfl) rfl rfl rfl
    rcases fw_ss (as := [120]) (bs := [89, 121]) hw with w1 | ⟨w1, w2⟩
    · refine r_tableIn (pc := 21) 248 (by decide) (by decide) rfl (by decide) dX8_readCommand_21 ?_
      refine r_aload0 (pc := 248) dX8_readCommand_248 ?_
      refine n_iconst_0 (pc := 249) dX8_readCommand_249 ?_
      refine n_iconst_1 (pc := 250) dX8_readCommand_250 ?_
      refine n_iconst_0 (pc := 251) dX8_readCommand_251 ?_
      refine n_bipush (pc := 252) 7 (by decide) dX8_readCommand_252 ?_
      refine r_callV4i (pc := 254) lk_X8_191 dX8_readCommand_254 (kget0 rfl) (s8_fig1N hT1 d1x (p := p + 1) rfl (by omega) (by omega) w1) (by decide) (Nat.le_of_ble_eq_true rfl) ⟨Nat.zero_le _, Nat.zero_le _⟩ ?_
      refine r_istore3 (pc := 257) dX8_readCommand_257 rfl ?_
      rw [ii_ii]
      refine r_aload0 (pc := 258) dX8_readCommand_258 ?_
      refine r_iload3 (pc := 259) dX8_readCommand_259 ?_
      refine n_iconst_2 (pc := 260) dX8_readCommand_260 ?_
      refine n_iconst_0 (pc := 261) dX8_readCommand_261 ?_
      refine n_bipush (pc := 262) 13 (by decide) dX8_readCommand_262 ?_
      refine r_callV4i (pc := 264) lk_X8_191 dX8_readCommand_264 (kget0 rfl) (s8_figNo (by omega)) (by decide) (Nat.le_of_ble_eq_true rfl) ⟨Nat.zero_le _, Nat.zero_le _⟩ ?_
      refine r_istore4 (pc := 267) dX8_readCommand_267 rfl ?_
      exact fin _
    · have b1 := dg_9 w1
      have w2 : fw n f [89, 121] (p + 2) = some w := w2
      refine r_tableIn (pc := 21) 248 (by decide) (by decide) rfl (by decide) dX8_readCommand_21 ?_
      refine r_aload0 (pc := 248) dX8_readCommand_248 ?_
      refine n_iconst_0 (pc := 249) dX8_readCommand_249 ?_
      refine n_iconst_1 (pc := 250) dX8_readCommand_250 ?_
      refine n_iconst_0 (pc := 251) dX8_readCommand_251 ?_
      refine n_bipush (pc := 252) 7 (by decide) dX8_readCommand_252 ?_
      refine r_callV4i (pc := 254) lk_X8_191 dX8_readCommand_254 (kget0 rfl) (s8_fig1 hT1 d1x (p := p + 1) rfl (by omega) (by omega) w1) (by decide) (Nat.le_of_ble_eq_true rfl) ⟨Nat.zero_le _, Nat.zero_le _⟩ ?_
      refine r_istore3 (pc := 257) dX8_readCommand_257 rfl ?_
      rw [ii_ii]
      refine r_aload0 (pc := 258) dX8_readCommand_258 ?_
      refine r_iload3 (pc := 259) dX8_readCommand_259 ?_
      refine n_iconst_2 (pc := 260) dX8_readCommand_260 ?_
      refine n_iconst_0 (pc := 261) dX8_readCommand_261 ?_
      refine n_bipush (pc := 262) 13 (by decide) dX8_readCommand_262 ?_
      refine r_callV4i (pc := 264) lk_X8_191 dX8_readCommand_264 (kget0 rfl) (s8_fig2N (hT.spot (nI (p + 2))) d2y (p := p + 2) rfl (by omega) (by omega) w2) (by decide) (Nat.le_of_ble_eq_true rfl) ⟨Nat.zero_le _, Nat.zero_le _⟩ ?_
      refine r_istore4 (pc := 267) dX8_readCommand_267 rfl ?_
      rw [ii_ii]
      exact fin _
  · refine r_tableIn (pc := 21) 296 (by decide) (by decide) rfl (by decide) dX8_readCommand_21 ?_
    refine r_aload0 (pc := 296) dX8_readCommand_296 ?_
    refine n_iconst_0 (pc := 297) dX8_readCommand_297 ?_
    refine n_iconst_2 (pc := 298) dX8_readCommand_298 ?_
    refine n_iconst_0 (pc := 299) dX8_readCommand_299 ?_
    refine n_bipush (pc := 300) 55 (by decide) dX8_readCommand_300 ?_
    refine r_callV4i (pc := 302) lk_X8_191 dX8_readCommand_302 (kget0 rfl) (s8_fig2N hT1 d2k (p := p + 1) rfl (by omega) (by omega) hw) (by decide) (Nat.le_of_ble_eq_true rfl) ⟨Nat.zero_le _, Nat.zero_le _⟩ ?_
    refine r_istore3 (pc := 305) dX8_readCommand_305 rfl ?_
    rw [ii_ii]
    refine r_iload3 (pc := 306) dX8_readCommand_306 ?_
    refine r_iconst_m1 (pc := 307) dX8_readCommand_307 ?_
    refine r_icmp_eq (pc := 308) 344 (by decide) dX8_readCommand_308 (fun _ => ?_) (fun h9 => absurd rfl h9)
    refine n_iconst_0 (pc := 344) dX8_readCommand_344 ?_
    exact r_ireturn (pc := 345) false rfl rfl (by decide) dX8_readCommand_345 (Nat.zero_le _) (Nat.zero_le _) (Or.inl rfl) rfl rfl rfl
  · cases hw
  · refine r_tableIn (pc := 21) 356 (by decide) (by decide) rfl (by decide) dX8_readCommand_21 ?_
    refine r_aload0 (pc := 356) dX8_readCommand_356 ?_
    refine n_iconst_0 (pc := 357) dX8_readCommand_357 ?_
    refine n_iconst_2 (pc := 358) dX8_readCommand_358 ?_
    refine n_iconst_1 (pc := 359) dX8_readCommand_359 ?_
    refine n_bipush (pc := 360) 20 (by decide) dX8_readCommand_360 ?_
    refine r_callV4i (pc := 362) lk_X8_191 dX8_readCommand_362 (kget0 rfl) (s8_fig2N hT1 d2c (p := p + 1) rfl (by omega) (by omega) hw) (by decide) (Nat.le_of_ble_eq_true rfl) ⟨Nat.zero_le _, Nat.zero_le _⟩ ?_
    refine r_istore3 (pc := 365) dX8_readCommand_365 rfl ?_
    rw [ii_ii]
    refine r_iload3 (pc := 366) dX8_readCommand_366 ?_
    refine r_iconst_m1 (pc := 367) dX8_readCommand_367 ?_
    refine r_icmp_eq (pc := 368) 396 (by decide) dX8_readCommand_368 (fun _ => ?_) (fun h9 => absurd rfl h9)
    refine n_iconst_0 (pc := 396) dX8_readCommand_396 ?_
    exact r_ireturn (pc := 397) false rfl rfl (by decide) dX8_readCommand_397 (Nat.zero_le _) (Nat.zero_le _) (Or.inl rfl) rfl rfl rfl
set_option maxRecDepth 20000 in
set_option maxHeartbeats 1600000 in
theorem s8_rcOk {ks : List Nat} (hT : TXm S n f) (hI : InvR (S.2 2) z) (hZ : ZOK z) (hTK : TOK z) (h6 : S.1 6 = nI p) (h7 : S.1 7 = nI o) (hp : p < n) (hk : cmK (f p) = some ks) (hw : fw n f ks (p + 1) = none) : SpecP mX8_readCommand 10 0 0 [.ref b, .ref (b + 3)] (kset M b S) (tC M b S (cmdZ z (f p) (fun i => dg n f (p + i))) (p + 1 + ks.length) o) := by
  have hf := hT.2.1 p hp
  have hn := hT.1
  have ht := hT.2.2.2 p hp
  have hd := hZ.dims
  refine Spec_of [some (.ref b), some (.ref (b + 3)), none, none, none] (by decide) (Nat.le_of_ble_eq_true rfl) rfl ?_
  generalize f p = c at *
  refine r_aload0 (pc := 0) dX8_readCommand_0 ?_
  refine r_getf (pc := 1) fl_X8_7 dX8_readCommand_1 (kget0 rfl) rfl ?_
  refine r_aload0 (pc := 4) dX8_readCommand_4 ?_
  refine r_getf (pc := 5) fl_X8_171 dX8_readCommand_5 (kget0 rfl) rfl ?_
  rw [h6]
  refine n_iald (pc := 8) dX8_readCommand_8 (kget rfl) (by omega) (by decide) ht ?_
  refine r_istore2 (pc := 9) dX8_readCommand_9 rfl ?_
  refine r_aload0 (pc := 10) dX8_readCommand_10 ?_
  refine r_dup (pc := 11) dX8_readCommand_11 rfl ?_
  refine r_getf (pc := 12) fl_X8_171 dX8_readCommand_12 (kget0 rfl) rfl ?_
  rw [h6]
  refine n_iconst_1 (pc := 15) dX8_readCommand_15 ?_
  first | refine n_iadd (pc := 16) dX8_readCommand_16 ?_ | refine z_iadd (pc := 16) dX8_readCommand_16 ?_ | refine r_iadd (pc := 16) dX8_readCommand_16 ?_
  refine r_putfI (pc := 17) fl_X8_171 dX8_readCommand_17 (kget0 rfl) (Nat.le_of_ble_eq_true rfl) ?_
  refine G_M bii_X8_13 ?_
  refine r_iload2 (pc := 20) dX8_readCommand_20 ?_
  have hT1 := hT.spot (nI (p + 1))
  have c0 : c = 112 ∨ c = 102 ∨ c = 116 ∨ c = 115 ∨ c = 98 ∨ c = 104 ∨ c = 108 ∨ c = 105 := by
    refine Classical.byContradiction (fun q => ?_)
    unfold cmK at hk
    rw [if_neg (by omega), if_neg (by omega), if_neg (by omega), if_neg (by omega), if_neg (by omega), if_neg (by omega), if_neg (by omega), if_neg (by omega)] at hk
    cases hk
  have done : ∀ (pc e1 e2 e3 : Nat) (lv : List (Option Value)) (v : Bool) (w : ZS) (S1 : BS), True → KS S S1 → InvR (S1.2 2) w → S1.1 6 = nI (p + 1 + ks.length) → S1.1 7 = nI o → cmdZ z c (fun i => dg n f (p + i)) = (v, w) →
    dec mX8_readCommand pc = .ok (.invokevirtual 198, 3) → dec mX8_readCommand (pc + 3) = .ok (.ifCond .eq 7, 3) → dec mX8_readCommand (pc + 3 + 3) = .ok (.iconst 1, 1) → dec mX8_readCommand (pc + 3 + 3 + 1) = .ok (.goto 4, 3) → dec mX8_readCommand (pc + 3 + 3 + 1 + 4) = .ok (.ireturn, 1) →
    G mX8_readCommand 10 (.inl false) 0 0 (tC M b S (cmdZ z c (fun i => dg n f (p + i))) (p + 1 + ks.length) o) none 0 0 pc lv [.int (bI v), .ref b] (kset M b S1) := by
    intro pc e1 e2 e3 lv v w S1 _ k1 k2 k3 k4 k5 q1 q2 q3 q4 q5
    refine r_callV1i (pc := pc) lk_X8_198 q1 (kget0 rfl) (s8_done k4) (by decide) (Nat.le_of_ble_eq_true rfl) ⟨Nat.zero_le _, Nat.zero_le _⟩ ?_
    refine b_if_eq (b := true) (pc := pc + 3) (pc + 3 + 7) (by omega) q2 (fun h9 => by cases h9) (fun _ => ?_)
    refine n_iconst_1 (pc := pc + 3 + 3) q3 ?_
    refine r_goto (pc := pc + 3 + 3 + 1) (pc + 3 + 3 + 1 + 4) (by omega) q4 ?_
    refine p_ireturn (pc := pc + 3 + 3 + 1 + 4) false rfl rfl (by decide) q5 (Nat.zero_le _) (Nat.zero_le _) (Or.inl rfl) ?_
    rw [k5]
    exact ⟨rfl, _, k1.ii (by omega) _, k2, by rw [ii_ne (by omega)]; exact k3, rfl, rfl⟩
  rcases c0 with e | e | e | e | e | e | e | e <;> subst e <;> cases hk
  · refine r_tableIn (pc := 21) 112 (by decide) (by decide) rfl (by decide) dX8_readCommand_21 ?_
    refine r_aload0 (pc := 112) dX8_readCommand_112 ?_
    refine r_aload1 (pc := 113) dX8_readCommand_113 ?_
    refine r_callV1x (pc := 114) lk_X8_202 dX8_readCommand_114 (kget0 rfl) (s8_readGrey (S := ii S 6 (nI (p + 1))) hT1 hI hZ (p := p) rfl h7 (by omega) hw)  (by decide) (Nat.le_of_ble_eq_true rfl) ⟨Nat.zero_le _, Nat.zero_le _⟩ (fun M9 h9 => ?_)
    obtain ⟨S', k1, k2, k3, k4, rfl⟩ := h9
    exact p_ireturn (pc := 117) false rfl rfl (by decide) dX8_readCommand_117 (Nat.zero_le _) (Nat.zero_le _) (Or.inl rfl) ⟨rfl, S', ((KS.rf S).ii (by omega) _).tr k1, k2, k3, k4, rfl⟩
  · obtain ⟨w1, w2⟩ := fw_nn (as := [100, 100]) (bs := [100, 100]) hw
    have w2 : fw n f [100, 100] (p + 3) = none := w2
    have b1 := tw_99 w1
    have b2 := tw_99 w2
    have hM : kset M b (ii S 6 (nI (p + 5))) (b + 3) = some (cI 563 (S.2 2)) := kget rfl
    have KS1 : KS S (ii S 6 (nI (p + 5))) := (KS.rf S).ii (by omega) _
    refine r_tableIn (pc := 21) 118 (by decide) (by decide) rfl (by decide) dX8_readCommand_21 ?_
    refine r_aload0 (pc := 118) dX8_readCommand_118 ?_
    refine n_iconst_0 (pc := 119) dX8_readCommand_119 ?_
    refine n_iconst_2 (pc := 120) dX8_readCommand_120 ?_
    refine n_iconst_0 (pc := 121) dX8_readCommand_121 ?_
    refine n_bipush (pc := 122) 99 (by decide) dX8_readCommand_122 ?_
    refine r_callV4i (pc := 124) lk_X8_191 dX8_readCommand_124 (kget0 rfl) (s8_fig2 hT1 d2d (p := p + 1) rfl (by omega) (by omega) w1) (by decide) (Nat.le_of_ble_eq_true rfl) ⟨Nat.zero_le _, Nat.zero_le _⟩ ?_
    refine r_istore3 (pc := 127) dX8_readCommand_127 rfl ?_
    rw [ii_ii]
    refine r_aload0 (pc := 128) dX8_readCommand_128 ?_
    refine r_iload3 (pc := 129) dX8_readCommand_129 ?_
    refine n_iconst_2 (pc := 130) dX8_readCommand_130 ?_
    refine n_iconst_0 (pc := 131) dX8_readCommand_131 ?_
    refine n_bipush (pc := 132) 99 (by decide) dX8_readCommand_132 ?_
    refine r_callV4i (pc := 134) lk_X8_191 dX8_readCommand_134 (kget0 rfl) (s8_fig2 (hT.spot (nI (p + 3))) d2d (p := p + 3) rfl (by omega) (by omega) w2) (by decide) (Nat.le_of_ble_eq_true rfl) ⟨Nat.zero_le _, Nat.zero_le _⟩ ?_
    refine r_istore4 (pc := 137) dX8_readCommand_137 rfl ?_
    rw [ii_ii]
    refine r_iload4 (pc := 139) dX8_readCommand_139 ?_
    refine r_iconst_m1 (pc := 141) dX8_readCommand_141 ?_
    refine r_icmp_eq (pc := 142) 164 (by decide) dX8_readCommand_142 (fun h9 => absurd h9 (nI_ne_m1 (by omega))) (fun _ => ?_)
    refine r_aload0 (pc := 145) dX8_readCommand_145 ?_
    refine r_aload0 (pc := 146) dX8_readCommand_146 ?_
    refine r_aload1 (pc := 147) dX8_readCommand_147 ?_
    refine r_iload3 (pc := 148) dX8_readCommand_148 ?_
    refine r_iload4 (pc := 149) dX8_readCommand_149 ?_
    refine r_callV3x (pc := 151) lk_X8_206 dX8_readCommand_151 (kget0 rfl) (s8_faded (M := M) (b := b) (S := (ii S 6 (nI (p + 5)))) hK2 hI hZ (p := tw (dg n f) (p + 1)) (q := tw (dg n f) (p + 3)) b1 b2)  (by decide) (Nat.le_of_ble_eq_true rfl) ⟨Nat.zero_le _, Nat.zero_le _⟩ (fun M9 h9 => ?_)
    obtain ⟨f', hI', rfl⟩ := h9
    exact done 154 0 0 0 _ _ _ _ trivial (KS1.i2 f') hI' rfl h7 rfl dX8_readCommand_154 dX8_readCommand_157 dX8_readCommand_160 dX8_readCommand_161 dX8_readCommand_165
  · have b1 := tw_99 hw
    have hM : kset M b (ii S 6 (nI (p + 3))) (b + 3) = some (cI 563 (S.2 2)) := kget rfl
    have KS1 : KS S (ii S 6 (nI (p + 3))) := (KS.rf S).ii (by omega) _
    refine r_tableIn (pc := 21) 166 (by decide) (by decide) rfl (by decide) dX8_readCommand_21 ?_
    refine r_aload0 (pc := 166) dX8_readCommand_166 ?_
    refine n_iconst_0 (pc := 167) dX8_readCommand_167 ?_
    refine n_iconst_2 (pc := 168) dX8_readCommand_168 ?_
    refine n_iconst_0 (pc := 169) dX8_readCommand_169 ?_
    refine n_bipush (pc := 170) 55 (by decide) dX8_readCommand_170 ?_
    refine r_callV4i (pc := 172) lk_X8_191 dX8_readCommand_172 (kget0 rfl) (s8_fig2 hT1 d2k (p := p + 1) rfl (by omega) (by omega) hw) (by decide) (Nat.le_of_ble_eq_true rfl) ⟨Nat.zero_le _, Nat.zero_le _⟩ ?_
    refine r_istore3 (pc := 175) dX8_readCommand_175 rfl ?_
    rw [ii_ii]
    refine r_iload3 (pc := 176) dX8_readCommand_176 ?_
    refine r_iconst_m1 (pc := 177) dX8_readCommand_177 ?_
    refine r_icmp_eq (pc := 178) 198 (by decide) dX8_readCommand_178 (fun h9 => absurd h9 (nI_ne_m1 (by omega))) (fun _ => ?_)
    refine r_aload0 (pc := 181) dX8_readCommand_181 ?_
    refine r_aload0 (pc := 182) dX8_readCommand_182 ?_
    refine r_aload1 (pc := 183) dX8_readCommand_183 ?_
    refine r_iload3 (pc := 184) dX8_readCommand_184 ?_
    refine r_callV2x (pc := 185) lk_X8_209 dX8_readCommand_185 (kget0 rfl) (s8_turnedOne (M := M) (b := b) (S := ii S 6 (nI (p + 3))) hK2 hI hZ (k := tw (dg n f) (p + 1)) (by omega))  (by decide) (Nat.le_of_ble_eq_true rfl) ⟨Nat.zero_le _, Nat.zero_le _⟩ (fun M9 h9 => ?_)
    obtain ⟨f', hI', rfl⟩ := h9
    exact done 188 0 0 0 _ _ _ _ trivial (KS1.i2 f') hI' rfl h7 rfl dX8_readCommand_188 dX8_readCommand_191 dX8_readCommand_194 dX8_readCommand_195 dX8_readCommand_199
  · obtain ⟨w1, w2⟩ := fw_nn (as := [75, 107]) (bs := [75, 107]) hw
    have w2 : fw n f [75, 107] (p + 3) = none := w2
    have b1 := tw_99 w1
    have b2 := tw_99 w2
    have hM : kset M b (ii S 6 (nI (p + 5))) (b + 3) = some (cI 563 (S.2 2)) := kget rfl
    have KS1 : KS S (ii S 6 (nI (p + 5))) := (KS.rf S).ii (by omega) _
    refine r_tableIn (pc := 21) 200 (by decide) (by decide) rfl (by decide) dX8_readCommand_21 ?_
    refine r_aload0 (pc := 200) dX8_readCommand_200 ?_
    refine n_iconst_0 (pc := 201) dX8_readCommand_201 ?_
    refine n_iconst_2 (pc := 202) dX8_readCommand_202 ?_
    refine n_iconst_0 (pc := 203) dX8_readCommand_203 ?_
    refine n_bipush (pc := 204) 55 (by decide) dX8_readCommand_204 ?_
    refine r_callV4i (pc := 206) lk_X8_191 dX8_readCommand_206 (kget0 rfl) (s8_fig2 hT1 d2k (p := p + 1) rfl (by omega) (by omega) w1) (by decide) (Nat.le_of_ble_eq_true rfl) ⟨Nat.zero_le _, Nat.zero_le _⟩ ?_
    refine r_istore3 (pc := 209) dX8_readCommand_209 rfl ?_
    rw [ii_ii]
    refine r_aload0 (pc := 210) dX8_readCommand_210 ?_
    refine r_iload3 (pc := 211) dX8_readCommand_211 ?_
    refine n_iconst_2 (pc := 212) dX8_readCommand_212 ?_
    refine n_iconst_0 (pc := 213) dX8_readCommand_213 ?_
    refine n_bipush (pc := 214) 55 (by decide) dX8_readCommand_214 ?_
    refine r_callV4i (pc := 216) lk_X8_191 dX8_readCommand_216 (kget0 rfl) (s8_fig2 (hT.spot (nI (p + 3))) d2k (p := p + 3) rfl (by omega) (by omega) w2) (by decide) (Nat.le_of_ble_eq_true rfl) ⟨Nat.zero_le _, Nat.zero_le _⟩ ?_
    refine r_istore4 (pc := 219) dX8_readCommand_219 rfl ?_
    rw [ii_ii]
    refine r_iload4 (pc := 221) dX8_readCommand_221 ?_
    refine r_iconst_m1 (pc := 223) dX8_readCommand_223 ?_
    refine r_icmp_eq (pc := 224) 246 (by decide) dX8_readCommand_224 (fun h9 => absurd h9 (nI_ne_m1 (by omega))) (fun _ => ?_)
    refine r_aload0 (pc := 227) dX8_readCommand_227 ?_
    refine r_aload0 (pc := 228) dX8_readCommand_228 ?_
    refine r_aload1 (pc := 229) dX8_readCommand_229 ?_
    refine r_iload3 (pc := 230) dX8_readCommand_230 ?_
    refine r_iload4 (pc := 231) dX8_readCommand_231 ?_
    refine r_callV3x (pc := 233) lk_X8_212 dX8_readCommand_233 (kget0 rfl) (s8_swapped (M := M) (b := b) (S := (ii S 6 (nI (p + 5)))) hK2 hI hZ (j := tw (dg n f) (p + 1)) (k := tw (dg n f) (p + 3)) (by omega) (by omega))  (by decide) (Nat.le_of_ble_eq_true rfl) ⟨Nat.zero_le _, Nat.zero_le _⟩ (fun M9 h9 => ?_)
    obtain ⟨f', hI', rfl⟩ := h9
    exact done 236 0 0 0 _ _ _ _ trivial (KS1.i2 f') hI' rfl h7 rfl dX8_readCommand_236 dX8_readCommand_239 dX8_readCommand_242 dX8_readCommand_243 dX8_readCommand_247
  · obtain ⟨w1, w2⟩ := fw_nn (as := [120]) (bs := [89, 121]) hw
    have w2 : fw n f [89, 121] (p + 2) = none := w2
    have b1 := dg_9 w1
    have b2 := tw_99 w2
    have hM : kset M b (ii S 6 (nI (p + 4))) (b + 3) = some (cI 563 (S.2 2)) := kget rfl
    have KS1 : KS S (ii S 6 (nI (p + 4))) := (KS.rf S).ii (by omega) _
    refine r_tableIn (pc := 21) 248 (by decide) (by decide) rfl (by decide) dX8_readCommand_21 ?_
    refine r_aload0 (pc := 248) dX8_readCommand_248 ?_
    refine n_iconst_0 (pc := 249) dX8_readCommand_249 ?_
    refine n_iconst_1 (pc := 250) dX8_readCommand_250 ?_
    refine n_iconst_0 (pc := 251) dX8_readCommand_251 ?_
    refine n_bipush (pc := 252) 7 (by decide) dX8_readCommand_252 ?_
    refine r_callV4i (pc := 254) lk_X8_191 dX8_readCommand_254 (kget0 rfl) (s8_fig1 hT1 d1x (p := p + 1) rfl (by omega) (by omega) w1) (by decide) (Nat.le_of_ble_eq_true rfl) ⟨Nat.zero_le _, Nat.zero_le _⟩ ?_
    refine r_istore3 (pc := 257) dX8_readCommand_257 rfl ?_
    rw [ii_ii]
    refine r_aload0 (pc := 258) dX8_readCommand_258 ?_
    refine r_iload3 (pc := 259) dX8_readCommand_259 ?_
    refine n_iconst_2 (pc := 260) dX8_readCommand_260 ?_
    refine n_iconst_0 (pc := 261) dX8_readCommand_261 ?_
    refine n_bipush (pc := 262) 13 (by decide) dX8_readCommand_262 ?_
    refine r_callV4i (pc := 264) lk_X8_191 dX8_readCommand_264 (kget0 rfl) (s8_fig2 (hT.spot (nI (p + 2))) d2y (p := p + 2) rfl (by omega) (by omega) w2) (by decide) (Nat.le_of_ble_eq_true rfl) ⟨Nat.zero_le _, Nat.zero_le _⟩ ?_
    refine r_istore4 (pc := 267) dX8_readCommand_267 rfl ?_
    rw [ii_ii]
    refine r_iload4 (pc := 269) dX8_readCommand_269 ?_
    refine r_iconst_m1 (pc := 271) dX8_readCommand_271 ?_
    refine r_icmp_eq (pc := 272) 294 (by decide) dX8_readCommand_272 (fun h9 => absurd h9 (nI_ne_m1 (by omega))) (fun _ => ?_)
    refine r_aload0 (pc := 275) dX8_readCommand_275 ?_
    refine r_aload0 (pc := 276) dX8_readCommand_276 ?_
    refine r_aload1 (pc := 277) dX8_readCommand_277 ?_
    refine r_iload3 (pc := 278) dX8_readCommand_278 ?_
    refine r_iload4 (pc := 279) dX8_readCommand_279 ?_
    refine r_callV3x (pc := 281) lk_X8_215 dX8_readCommand_281 (kget0 rfl) (s8_flipped (M := M) (b := b) (S := (ii S 6 (nI (p + 4)))) hK2 hI hZ (x := dg n f (p + 1)) (y := tw (dg n f) (p + 2)) (by omega) (by omega))  (by decide) (Nat.le_of_ble_eq_true rfl) ⟨Nat.zero_le _, Nat.zero_le _⟩ (fun M9 h9 => ?_)
    obtain ⟨f', hI', rfl⟩ := h9
    exact done 284 0 0 0 _ _ _ _ trivial (KS1.i2 f') hI' rfl h7 rfl dX8_readCommand_284 dX8_readCommand_287 dX8_readCommand_290 dX8_readCommand_291 dX8_readCommand_295
  · have b1 := tw_99 hw
    have hM : kset M b (ii S 6 (nI (p + 3))) (b + 3) = some (cI 563 (S.2 2)) := kget rfl
    have KS1 : KS S (ii S 6 (nI (p + 3))) := (KS.rf S).ii (by omega) _
    refine r_tableIn (pc := 21) 296 (by decide) (by decide) rfl (by decide) dX8_readCommand_21 ?_
    refine r_aload0 (pc := 296) dX8_readCommand_296 ?_
    refine n_iconst_0 (pc := 297) dX8_readCommand_297 ?_
    refine n_iconst_2 (pc := 298) dX8_readCommand_298 ?_
    refine n_iconst_0 (pc := 299) dX8_readCommand_299 ?_
    refine n_bipush (pc := 300) 55 (by decide) dX8_readCommand_300 ?_
    refine r_callV4i (pc := 302) lk_X8_191 dX8_readCommand_302 (kget0 rfl) (s8_fig2 hT1 d2k (p := p + 1) rfl (by omega) (by omega) hw) (by decide) (Nat.le_of_ble_eq_true rfl) ⟨Nat.zero_le _, Nat.zero_le _⟩ ?_
    refine r_istore3 (pc := 305) dX8_readCommand_305 rfl ?_
    rw [ii_ii]
    refine r_iload3 (pc := 306) dX8_readCommand_306 ?_
    refine r_iconst_m1 (pc := 307) dX8_readCommand_307 ?_
    refine r_icmp_eq (pc := 308) 344 (by decide) dX8_readCommand_308 (fun h9 => absurd h9 (nI_ne_m1 (by omega))) (fun _ => ?_)
    have e0 : cmdZ z 104 (fun i => dg n f (p + i)) = (decide (tw (dg n f) (p + 1) < zt z), aH z (tw (dg n f) (p + 1))) := rfl
    refine r_aload0 (pc := 311) dX8_readCommand_311 ?_
    refine r_aload1 (pc := 312) dX8_readCommand_312 ?_
    refine r_iload3 (pc := 313) dX8_readCommand_313 ?_
    refine r_callS2i (pc := 314) lk_X8_152 dX8_readCommand_314 (s8_isPlace hM hI hZ) (by decide) (Nat.le_of_ble_eq_true rfl) ⟨Nat.zero_le _, Nat.zero_le _⟩ ?_
    rw [inR_nI (by omega) (by omega)]
    refine b_if_eq (pc := 317) 333 (by decide) dX8_readCommand_317 (fun h1 => ?_) (fun h1 => ?_)
    · refine n_iconst_0 (pc := 333) dX8_readCommand_333 ?_
      refine done 334 0 0 0 _ false z _ trivial KS1 hI rfl h7 ?_ dX8_readCommand_334 dX8_readCommand_337 dX8_readCommand_340 dX8_readCommand_341 dX8_readCommand_345
      rw [e0, h1]
      unfold aH
      rw [if_neg (of_decide_eq_false h1)]
    · have h2 := of_decide_eq_true h1
      have hho := zM_one (f := zH (holdZ z (tw (dg n f) (p + 1)) 1)) (zt z) h2
      have hh1 : zH (holdZ z (tw (dg n f) (p + 1)) 1) (tw (dg n f) (p + 1)) = 1 := ups_same
      have hhl := zM_le (f := zH (holdZ z (tw (dg n f) (p + 1)) 1)) (m := zt z) (fun k hk => (holdZ_ok hZ (tw (dg n f) (p + 1)) (v := 1) (by omega)).h hk) (zt z) (Nat.le_refl _)
      refine r_aload1 (pc := 320) dX8_readCommand_320 ?_
      refine r_iload3 (pc := 321) dX8_readCommand_321 ?_
      refine n_iconst_1 (pc := 322) dX8_readCommand_322 ?_
      refine r_callS3x (pc := 323) lk_X8_218 dX8_readCommand_323 (hK2.to (M := M) (b := b) (S := ii S 6 (nI (p + 3))) (s8_holdOn (v := true) hI hZ h2))  (by decide) (Nat.le_of_ble_eq_true rfl) ⟨Nat.zero_le _, Nat.zero_le _⟩ (fun M9 h9 => ?_)
      obtain ⟨f', hI', rfl⟩ := h9
      refine n_if_le (pc := 326) 333 (by decide) dX8_readCommand_326 (show zM (zH (holdZ z (tw (dg n f) (p + 1)) 1)) (zt z) < 2147483648 by omega) (fun h9 => absurd h9 (show ¬ zM (zH (holdZ z (tw (dg n f) (p + 1)) 1)) (zt z) = 0 by omega)) (fun _ => ?_)
      refine n_iconst_1 (pc := 329) dX8_readCommand_329 ?_
      refine r_goto (pc := 330) 334 (by decide) dX8_readCommand_330 ?_
      refine done 334 0 0 0 _ true _ _ trivial (KS1.i2 f') hI' rfl h7 ?_ dX8_readCommand_334 dX8_readCommand_337 dX8_readCommand_340 dX8_readCommand_341 dX8_readCommand_345
      rw [e0, h1]
      unfold aH
      rw [if_pos h2]; rfl
  · have KS1 : KS S (ii S 6 (nI (p + 1))) := (KS.rf S).ii (by omega) _
    refine r_tableIn (pc := 21) 346 (by decide) (by decide) rfl (by decide) dX8_readCommand_21 ?_
    refine r_aload0 (pc := 346) dX8_readCommand_346 ?_
    refine r_aload0 (pc := 347) dX8_readCommand_347 ?_
    refine r_aload1 (pc := 348) dX8_readCommand_348 ?_
    refine r_callV1x (pc := 349) lk_X8_222 dX8_readCommand_349 (kget0 rfl) (s8_laidAnew (M := M) (b := b) (S := ii S 6 (nI (p + 1))) hK2 hI hZ hTK)  (by decide) (Nat.le_of_ble_eq_true rfl) ⟨Nat.zero_le _, Nat.zero_le _⟩ (fun M9 h9 => ?_)
    obtain ⟨L, f', hI', rfl⟩ := h9
    change G mX8_readCommand 10 (.inl false) 0 0 _ none 0 0 352 _ _ (kset M b (ia (ia (ii S 6 (nI (p + 1))) 6 L) 2 f'))
    refine r_callV1i (pc := 352) lk_X8_198 dX8_readCommand_352 (kget0 rfl) (s8_done h7) (by decide) (Nat.le_of_ble_eq_true rfl) ⟨Nat.zero_le _, Nat.zero_le _⟩ ?_
    exact p_ireturn (pc := 355) false rfl rfl (by decide) dX8_readCommand_355 (Nat.zero_le _) (Nat.zero_le _) (Or.inl rfl) ⟨rfl, _, ((KS1.i6 L).i2 f').ii (by omega) _, hI', rfl, rfl, rfl⟩
  · have b1 := tw_99 hw
    have hM : kset M b (ii S 6 (nI (p + 3))) (b + 3) = some (cI 563 (S.2 2)) := kget rfl
    have KS1 : KS S (ii S 6 (nI (p + 3))) := (KS.rf S).ii (by omega) _
    refine r_tableIn (pc := 21) 356 (by decide) (by decide) rfl (by decide) dX8_readCommand_21 ?_
    refine r_aload0 (pc := 356) dX8_readCommand_356 ?_
    refine n_iconst_0 (pc := 357) dX8_readCommand_357 ?_
    refine n_iconst_2 (pc := 358) dX8_readCommand_358 ?_
    refine n_iconst_1 (pc := 359) dX8_readCommand_359 ?_
    refine n_bipush (pc := 360) 20 (by decide) dX8_readCommand_360 ?_
    refine r_callV4i (pc := 362) lk_X8_191 dX8_readCommand_362 (kget0 rfl) (s8_fig2 hT1 d2c (p := p + 1) rfl (by omega) (by omega) hw) (by decide) (Nat.le_of_ble_eq_true rfl) ⟨Nat.zero_le _, Nat.zero_le _⟩ ?_
    refine r_istore3 (pc := 365) dX8_readCommand_365 rfl ?_
    rw [ii_ii]
    refine r_iload3 (pc := 366) dX8_readCommand_366 ?_
    refine r_iconst_m1 (pc := 367) dX8_readCommand_367 ?_
    refine r_icmp_eq (pc := 368) 396 (by decide) dX8_readCommand_368 (fun h9 => absurd h9 (nI_ne_m1 (by omega))) (fun _ => ?_)
    have hle := imp_le (tw (dg n f) (p + 1)) hZ
    have hb1 : 0 ≤ erAll z ∧ erAll z ≤ 1097712 := hZ.erAllN (zt z) (Nat.le_refl _)
    have hzi := (imp_ch (tw (dg n f) (p + 1)) hZ).2.1
    have hb2 : 0 ≤ erAll (impZ (tw (dg n f) (p + 1)) z) := (hzi.erAllN _ (Nat.le_refl _)).1
    refine r_aload0 (pc := 371) dX8_readCommand_371 ?_
    refine r_aload0 (pc := 372) dX8_readCommand_372 ?_
    refine r_aload1 (pc := 373) dX8_readCommand_373 ?_
    refine r_iload3 (pc := 374) dX8_readCommand_374 ?_
    refine r_callV2x (pc := 375) lk_X8_225 dX8_readCommand_375 (kget0 rfl) (s8_improveOn (M := M) (b := b) (S := ii S 6 (nI (p + 3))) hK2 hI hZ (m := tw (dg n f) (p + 1)) (by omega))  (by decide) (Nat.le_of_ble_eq_true rfl) ⟨Nat.zero_le _, Nat.zero_le _⟩ (fun M9 h9 => ?_)
    obtain ⟨v', w', f', hI', rfl⟩ := h9
    refine z_if_lt (pc := 378) 385 (by decide) dX8_readCommand_378 (by omega) (by omega) (fun h9 => absurd h9 (by omega)) (fun _ => ?_)
    refine n_iconst_1 (pc := 381) dX8_readCommand_381 ?_
    refine r_goto (pc := 382) 386 (by decide) dX8_readCommand_382 ?_
    exact done 386 0 0 0 _ true _ _ trivial (((((KS1.ii (by omega) _).ii (by omega) _).ii (by omega) _).i2 f')) hI' rfl h7 rfl dX8_readCommand_386 dX8_readCommand_389 dX8_readCommand_392 dX8_readCommand_393 dX8_readCommand_397
end RCMD

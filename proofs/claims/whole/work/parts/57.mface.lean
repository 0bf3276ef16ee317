/-- the reference's cells hold the world -/
def MODEL (S : BS) (w : WS) : Prop := InvR (S.2 1) (wz w) ∧ TXm S (wn w) (wf w) ∧ (S.1 2 = nI (wk w) ∧ ∀ i, i < wk w → InvR (fun j => S.2 3 (563 * i + j)) (wg w i)) ∧ ∀ s, s < 2 → S.2 5 s = bI (wu w s).isSome ∧ ∀ y, wu w s = some y → InvR (fun j => S.2 4 (563 * s + j)) y
theorem MODEL.r {S : BS} {w : WS} (h : MODEL S w) : InvR (S.2 1) (wz w) := h.1
theorem MODEL.a {S : BS} {w : WS} (h : MODEL S w) : S.1 2 = nI (wk w) := h.2.2.1.1
theorem MODEL.n {S : BS} {w : WS} (h : MODEL S w) : S.1 1 = nI (wn w) := h.2.1.2.2.1
theorem MODEL.ks {S S' : BS} {w : WS} (h : MODEL S w) (hk : KS S S') : MODEL S' w := by
  obtain ⟨h1, h2, ⟨h3, h4⟩, h5⟩ := h
  have e1 := hk.2 1 (by omega) (by omega)
  have e3 := hk.2 3 (by omega) (by omega)
  have e4 := hk.2 4 (by omega) (by omega)
  have e5 := hk.2 5 (by omega) (by omega)
  exact ⟨by rw [e1]; exact h1, hk.tx h2, ⟨by rw [hk.1 2 (by omega)]; exact h3, by rw [e3]; exact h4⟩, by rw [e4, e5]; exact h5⟩
theorem MODEL.ii0 {S : BS} {w : WS} (h : MODEL S w) (v : Int32) : MODEL (ii S 0 v) w := h
theorem MODEL.now {S : BS} {w : WS} (h : MODEL S w) {f : Nat → Int32} {z : ZS} (hf : InvR f z) : MODEL (ia S 1 f) (wNow w z) := ⟨hf, h.2⟩
theorem MODEL.tr {S : BS} {w : WS} (h : MODEL S w) (f : Nat → Int32) : MODEL (ia S 2 f) w := h
theorem InvR.cg {f g : Nat → Int32} {z : ZS} (h : InvR f z) (hZ : ZOK z) (e : ∀ j, j < 563 → g j = f j) : InvR g z := by
  have hd := hZ.dims
  refine ⟨⟨by rw [e 0 (by omega)]; exact h.n, by rw [e 1 (by omega)]; exact h.s, by rw [e 2 (by omega)]; exact h.ch⟩, fun s hs => by rw [e _ (by omega)]; exact h.G hs, fun k hk => ?_, fun s hs hn => by rw [e _ (by omega)]; exact h.Z hs hn⟩
  have hq := hZ.fq hk
  rw [e _ (by omega), e _ (by omega), e _ (by omega), e _ (by omega)]
  exact h.2.2.1 k hk
theorem inL_AB {x : Int32} {P Q : Int64} {a b : Nat} (hP : P.toInt = a) (hQ : Q.toInt = b) : (decide (P ≤ x.toInt64) && decide (x.toInt64 ≤ Q)) = inB x a b := by
  have e1 : decide (P ≤ x.toInt64) = decide ((a : Int) ≤ x.toInt) := by rw [decide_eq_decide, Int64.le_iff_toInt_le, Int32.toInt_toInt64, hP]
  have e2 : decide (x.toInt64 ≤ Q) = decide (x.toInt ≤ (b : Int)) := by rw [decide_eq_decide, Int64.le_iff_toInt_le, Int32.toInt_toInt64, hQ]
  rw [e1, e2]
  unfold inB
  by_cases h1 : (a : Int) ≤ x.toInt <;> by_cases h2 : x.toInt ≤ (b : Int) <;> simp [h1, h2]
theorem inB_R {x : Int32} {n : Nat} : inB x 0 n = inR x (n + 1) := by
  unfold inB inR
  rw [decide_eq_decide]
  omega
def hK1 : KR 2 1 := Or.inl ⟨rfl, rfl⟩
def tMo (M : Mem) (b : Nat) (r : RA) : TG := tP (some (.int r.2.1)) (fun Mf => ∃ S', MODEL S' r.2.2 ∧ S'.1 0 = nI r.1 ∧ Mf = kset M b S')
theorem bI_y {p : Prop} [Decidable p] (h : p) : bI (decide p) = bI true := by rw [decide_eq_true h]
theorem bI_n {p : Prop} [Decidable p] (h : ¬ p) : bI (decide p) = bI false := by rw [decide_eq_false h]
theorem kr0 {M : Mem} {b : Nat} {S : BS} {f : Nat → Int32} : mset (kset M b S) (b + 1) (cI 120 f) = kset M b (ia S 0 f) := kset_mset (j := 1) (by decide) rfl
theorem kr1 {M : Mem} {b : Nat} {S : BS} {f : Nat → Int32} : mset (kset M b S) (b + 2) (cI 563 f) = kset M b (ia S 1 f) := kset_mset (j := 2) (by decide) rfl
theorem kr2 {M : Mem} {b : Nat} {S : BS} {f : Nat → Int32} : mset (kset M b S) (b + 3) (cI 563 f) = kset M b (ia S 2 f) := kset_mset (j := 3) (by decide) rfl
theorem kr3 {M : Mem} {b : Nat} {S : BS} {f : Nat → Int32} : mset (kset M b S) (b + 4) (cI 7882 f) = kset M b (ia S 3 f) := kset_mset (j := 4) (by decide) rfl
theorem kr4 {M : Mem} {b : Nat} {S : BS} {f : Nat → Int32} : mset (kset M b S) (b + 5) (cI 1126 f) = kset M b (ia S 4 f) := kset_mset (j := 5) (by decide) rfl
theorem kr5 {M : Mem} {b : Nat} {S : BS} {f : Nat → Int32} : mset (kset M b S) (b + 6) (cZ 2 f) = kset M b (ia S 5 f) := kset_mset (j := 6) (by decide) rfl
theorem kr6 {M : Mem} {b : Nat} {S : BS} {f : Nat → Int32} : mset (kset M b S) (b + 7) (cZ 56 f) = kset M b (ia S 6 f) := kset_mset (j := 7) (by decide) rfl
theorem mo {M : Mem} {b : Nat} {S' : BS} {r : RA} {v : Int32} (hv : v = r.2.1) (h0 : S'.1 0 = nI r.1) (hM : MODEL S' r.2.2) : tMo M b r (.inl (some (.int v))) (kset M b S') := ⟨by rw [hv], S', hM, h0, rfl⟩
section MFACE
variable {M : Mem} {b : Nat} {S : BS} {w : WS}
theorem s8_inAB {x : Int32} {P Q : Int64} {a b : Nat} (hP : P.toInt = a) (hQ : Q.toInt = b) : Spec mX8_in 1 0 0 [.long x.toInt64, .long P, .long Q] M (some (.int (bI (inB x a b)))) M := by
  have h := s8_in (M := M) (v := x.toInt64) (lo := P) (hi := Q)
  rw [inL_AB hP hQ] at h
  exact h
theorem s8_refused {k : Nat} (hk : k < 10) : Spec mX8_refused 1 0 0 [.ref b, .int (nI k)] (kset M b S) (some (.int (bI (decide (0 < k))))) (kset M b (ii S 0 (nI k))) := by
  refine Spec_of [some (.ref b), some (.int (nI k))] (by decide) (Nat.le_of_ble_eq_true rfl) rfl ?_
  refine r_aload0 (pc := 0) dX8_refused_0 ?_
  refine r_iload1 (pc := 1) dX8_refused_1 ?_
  refine r_putfI (pc := 2) fl_X8_36 dX8_refused_2 (kget0 rfl) (Nat.le_of_ble_eq_true rfl) ?_
  refine G_M bii_X8_0 ?_
  refine r_iload1 (pc := 5) dX8_refused_5 ?_
  refine n_if_le (pc := 6) 13 (by decide) dX8_refused_6 (by omega) (fun h9 => ?_) (fun h9 => ?_)
  · rw [decide_eq_false (show ¬ 0 < k by omega)]
    refine n_iconst_0 (pc := 13) dX8_refused_13 ?_
    exact r_ireturn (pc := 14) false rfl rfl (by decide) dX8_refused_14 (Nat.zero_le _) (Nat.zero_le _) (Or.inl rfl) rfl rfl rfl
  · rw [decide_eq_true h9]
    refine n_iconst_1 (pc := 9) dX8_refused_9 ?_
    refine r_goto (pc := 10) 14 (by decide) dX8_refused_10 ?_
    exact r_ireturn (pc := 14) false rfl rfl (by decide) dX8_refused_14 (Nat.zero_le _) (Nat.zero_le _) (Or.inl rfl) rfl rfl rfl
theorem s8_thrown {k : Int32} (h0 : S.1 0 = k) : Spec mX8_thrown 1 0 0 [.ref b] (kset M b S) (some (.int k)) (kset M b S) := by
  refine Spec_of [some (.ref b)] (by decide) (Nat.le_of_ble_eq_true rfl) rfl ?_
  refine r_aload0 (pc := 0) dX8_thrown_0 ?_
  refine r_getf (pc := 1) fl_X8_36 dX8_thrown_1 (kget0 rfl) rfl ?_
  rw [h0]
  exact r_ireturn (pc := 4) false rfl rfl rfl dX8_thrown_4 (Nat.zero_le _) (Nat.zero_le _) (Or.inl rfl) rfl rfl rfl
theorem cp_31 {i0 : Nat} (h : i0 + 563 ≤ 7882) : Spec mX8_copyState 1 0 0 [.ref (b + 4), .int (nI i0), .ref (b + 2), .int (nI 0)] (kset M b S) none (kset M b (ia S 1 (cpR (S.2 3) (S.2 1) i0 0 563))) := by
  have q := s8_copyState (M := kset M b S) (a := b + 4) (c := b + 2) (i0 := i0) (i1 := 0) (f := S.2 3) (g := S.2 1) (n0 := 7882) (n1 := 563) (by omega) (kget rfl) (kget rfl) h (by decide) (by decide) (by decide)
  rw [kr1] at q
  exact q
theorem cp_13 {i1 : Nat} (h : i1 + 563 ≤ 7882) : Spec mX8_copyState 1 0 0 [.ref (b + 2), .int (nI 0), .ref (b + 4), .int (nI i1)] (kset M b S) none (kset M b (ia S 3 (cpR (S.2 1) (S.2 3) 0 i1 563))) := by
  have q := s8_copyState (M := kset M b S) (a := b + 2) (c := b + 4) (i0 := 0) (i1 := i1) (f := S.2 1) (g := S.2 3) (n0 := 563) (n1 := 7882) (by omega) (kget rfl) (kget rfl) (by decide) h (by decide) (by decide)
  rw [kr3] at q
  exact q
theorem cp_12 : Spec mX8_copyState 1 0 0 [.ref (b + 2), .int (nI 0), .ref (b + 3), .int (nI 0)] (kset M b S) none (kset M b (ia S 2 (cpR (S.2 1) (S.2 2) 0 0 563))) := by
  have q := s8_copyState (M := kset M b S) (a := b + 2) (c := b + 3) (i0 := 0) (i1 := 0) (f := S.2 1) (g := S.2 2) (n0 := 563) (n1 := 563) (by omega) (kget rfl) (kget rfl) (by decide) (by decide) (by decide) (by decide)
  rw [kr2] at q
  exact q
theorem cp_21 : Spec mX8_copyState 1 0 0 [.ref (b + 3), .int (nI 0), .ref (b + 2), .int (nI 0)] (kset M b S) none (kset M b (ia S 1 (cpR (S.2 2) (S.2 1) 0 0 563))) := by
  have q := s8_copyState (M := kset M b S) (a := b + 3) (c := b + 2) (i0 := 0) (i1 := 0) (f := S.2 2) (g := S.2 1) (n0 := 563) (n1 := 563) (by omega) (kget rfl) (kget rfl) (by decide) (by decide) (by decide) (by decide)
  rw [kr1] at q
  exact q
theorem cp_14 {i1 : Nat} (h : i1 + 563 ≤ 1126) : Spec mX8_copyState 1 0 0 [.ref (b + 2), .int (nI 0), .ref (b + 5), .int (nI i1)] (kset M b S) none (kset M b (ia S 4 (cpR (S.2 1) (S.2 4) 0 i1 563))) := by
  have q := s8_copyState (M := kset M b S) (a := b + 2) (c := b + 5) (i0 := 0) (i1 := i1) (f := S.2 1) (g := S.2 4) (n0 := 563) (n1 := 1126) (by omega) (kget rfl) (kget rfl) (by decide) h (by decide) (by decide)
  rw [kr4] at q
  exact q
theorem cp_41 {i0 : Nat} (h : i0 + 563 ≤ 1126) : Spec mX8_copyState 1 0 0 [.ref (b + 5), .int (nI i0), .ref (b + 2), .int (nI 0)] (kset M b S) none (kset M b (ia S 1 (cpR (S.2 4) (S.2 1) i0 0 563))) := by
  have q := s8_copyState (M := kset M b S) (a := b + 5) (c := b + 2) (i0 := i0) (i1 := 0) (f := S.2 4) (g := S.2 1) (n0 := 1126) (n1 := 563) (by omega) (kget rfl) (kget rfl) h (by decide) (by decide) (by decide)
  rw [kr1] at q
  exact q
set_option maxRecDepth 20000 in
theorem s8_remember (h : MODEL S w) (hW : WOK w) : SpecP mX8_remember 2 0 0 [.ref b] (kset M b S) (tP none (fun Mf => ∃ S', MODEL S' (wRem w) ∧ S'.1 0 = S.1 0 ∧ Mf = kset M b S')) := by
  have hk14 := hW.2.1.1
  have ha := h.a
  refine Spec_of [some (.ref b), none] (by decide) (Nat.le_of_ble_eq_true rfl) rfl ?_
  have fin : ∀ (l1 : Option Value) (S1 : BS) (k : Nat), k < 14 → wk (wRem w) = k + 1 → S1.1 2 = nI k → S1.1 0 = S.1 0 → S1.1 1 = S.1 1 → (∀ j, j ≠ 3 → S1.2 j = S.2 j) → (∀ i, i < k → InvR (fun j => S1.2 3 (563 * i + j)) (wg (wRem w) i)) → wg (wRem w) k = wz w →
    G mX8_remember 2 (.inl false) 0 0 (tP none (fun Mf => ∃ S', MODEL S' (wRem w) ∧ S'.1 0 = S.1 0 ∧ Mf = kset M b S')) none 0 0 50 [some (.ref b), l1] [] (kset M b S1)
    := by
    intro l1 S1 k k1 k2 k3 k4 k5 k6 k7 k8
    refine r_aload0 (pc := 50) dX8_remember_50 ?_
    refine r_getf (pc := 51) fl_X8_13 dX8_remember_51 (kget0 rfl) rfl ?_
    refine n_iconst_0 (pc := 54) dX8_remember_54 ?_
    refine r_aload0 (pc := 55) dX8_remember_55 ?_
    refine r_getf (pc := 56) fl_X8_19 dX8_remember_56 (kget0 rfl) rfl ?_
    refine n_sipush (pc := 59) 563 (by decide) dX8_remember_59 ?_
    refine r_aload0 (pc := 62) dX8_remember_62 ?_
    refine r_getf (pc := 63) fl_X8_238 dX8_remember_63 (kget0 rfl) rfl ?_
    rw [k3]
    first | refine n_imul (pc := 66) dX8_remember_66 ?_ | refine z_imul (pc := 66) dX8_remember_66 ?_ | refine r_imul (pc := 66) dX8_remember_66 ?_
    refine r_callS4v (pc := 67) lk_X8_234 dX8_remember_67 (cp_13 (by omega)) (by decide) (Nat.le_of_ble_eq_true rfl) ⟨Nat.zero_le _, Nat.zero_le _⟩ ?_
    have k33 : (ia S1 3 (cpR (S1.2 1) (S1.2 3) 0 (563 * k) 563)).1 2 = nI k := k3
    refine r_aload0 (pc := 70) dX8_remember_70 ?_
    refine r_dup (pc := 71) dX8_remember_71 rfl ?_
    refine r_getf (pc := 72) fl_X8_238 dX8_remember_72 (kget0 rfl) rfl ?_
    rw [k33]
    refine n_iconst_1 (pc := 75) dX8_remember_75 ?_
    first | refine n_iadd (pc := 76) dX8_remember_76 ?_ | refine z_iadd (pc := 76) dX8_remember_76 ?_ | refine r_iadd (pc := 76) dX8_remember_76 ?_
    refine r_putfI (pc := 77) fl_X8_238 dX8_remember_77 (kget0 rfl) (Nat.le_of_ble_eq_true rfl) ?_
    refine G_M bii_X8_6 ?_
    refine p_return (pc := 80) false rfl rfl dX8_remember_80 (Nat.zero_le _) (Nat.zero_le _) (Or.inl rfl) ⟨rfl, _, ⟨?_, ?_, ⟨?_, fun i hi => ?_⟩, ?_⟩, ?_, rfl⟩
    · show InvR (S1.2 1) (wz w)
      rw [k6 1 (by omega)]; exact h.r
    · exact ⟨h.2.1.1, h.2.1.2.1, by show S1.1 1 = nI (wn w); rw [k5]; exact h.n, fun i hi => by show S1.2 0 i = _; rw [k6 0 (by omega)]; exact h.2.1.2.2.2 i hi⟩
    · rw [k2]; rfl
    · rw [k2] at hi
      show InvR (fun j => cpR (S1.2 1) (S1.2 3) 0 (563 * k) 563 (563 * i + j)) (wg (wRem w) i)
      by_cases e : i = k
      · subst e
        rw [k8]
        refine InvR.cg h.r hW.z (fun j hj => ?_)
        rw [cpR_in hj, k6 1 (by omega), Nat.zero_add]
      · refine InvR.cg (k7 i (by omega)) ((hW.rem.2.1.2 i (by omega)).1) (fun j hj => ?_)
        rw [cpR_out (by omega)]
    · show ∀ s, s < 2 → S1.2 5 s = _ ∧ ∀ y, _ → InvR (fun j => S1.2 4 (563 * s + j)) y
      rw [k6 5 (by omega), k6 4 (by omega)]
      exact h.2.2.2
    · exact k4
  refine r_aload0 (pc := 0) dX8_remember_0 ?_
  refine r_getf (pc := 1) fl_X8_238 dX8_remember_1 (kget0 rfl) rfl ?_
  rw [ha]
  refine n_bipush (pc := 4) 14 (by decide) dX8_remember_4 ?_
  refine n_icmp_ne (pc := 6) 50 (by decide) dX8_remember_6 (by omega) (by omega) (fun h1 => ?_) (fun h1 => ?_)
  · refine fin none S (wk w) (by omega) (by rw [wRem_k, if_neg h1]) ha rfl rfl (fun _ _ => rfl) (fun i hi => ?_) (by rw [wRem_g, if_neg h1, if_pos rfl])
    rw [wRem_g, if_neg h1, if_neg (by omega)]
    exact h.2.2.1.2 i hi
  · refine n_iconst_0 (pc := 9) dX8_remember_9 ?_
    refine r_istore1 (pc := 10) dX8_remember_10 rfl ?_
    refine up_to (N := 7319) (k := 0) (fun t => ∀ D : Nat → Int32, (∀ j, D j = if j < t then S.2 3 (j + 563) else S.2 3 j) →
      G mX8_remember 2 (.inl false) 0 0 (tP none (fun Mf => ∃ S', MODEL S' (wRem w) ∧ S'.1 0 = S.1 0 ∧ Mf = kset M b S')) none 0 0 11 [some (.ref b), some (.int (nI t))] [] (kset M b (ia S 3 D))
      ) (fun D hD => ?_) (fun t ht ih D hD => ?_) (Nat.zero_le _) (S.2 3) (fun j => by rw [if_neg (Nat.not_lt_zero _)]) |> fun q => by rw [ia_self] at q; exact q
    · have ha2 : (ia S 3 D).1 2 = nI (wk w) := ha
      refine r_iload1 (pc := 11) dX8_remember_11 ?_
      refine n_sipush (pc := 12) 7319 (by decide) dX8_remember_12 ?_
      refine n_icmp_ge (pc := 15) 40 (by decide) dX8_remember_15 (by omega) (by omega) (fun hc15 => ?_) (fun hc15 => absurd hc15 (by omega))
      refine r_aload0 (pc := 40) dX8_remember_40 ?_
      refine r_dup (pc := 41) dX8_remember_41 rfl ?_
      refine r_getf (pc := 42) fl_X8_238 dX8_remember_42 (kget0 rfl) rfl ?_
      rw [ha2]
      refine n_iconst_1 (pc := 45) dX8_remember_45 ?_
      refine n_isub (pc := 46) dX8_remember_46 (by omega) ?_
      refine r_putfI (pc := 47) fl_X8_238 dX8_remember_47 (kget0 rfl) (Nat.le_of_ble_eq_true rfl) ?_
      refine G_M bii_X8_6 ?_
      have e13 : ∀ j, (ii (ia S 3 D) 2 (nI (wk w - 1))).2 j = (ia S 3 D).2 j := fun _ => rfl
      refine fin _ _ 13 (by omega) (by rw [wRem_k, if_pos h1]) (by rw [ii_same, h1]) rfl (by rw [ii_ne (by omega)]; rfl) (fun j hj => by rw [e13, ia_ne hj]) (fun i hi => ?_) (by rw [wRem_g, if_pos h1, if_pos rfl])
      rw [wRem_g, if_pos h1, if_neg (by omega)]
      refine InvR.cg (h.2.2.1.2 (i + 1) (by omega)) ((hW.2.1.2 (i + 1) (by omega)).1) (fun j hj => ?_)
      show D (563 * i + j) = S.2 3 (563 * (i + 1) + j)
      rw [hD, if_pos (by omega), show 563 * i + j + 563 = 563 * (i + 1) + j by omega]
    · have hDt := hD (t + 563)
      rw [if_neg (by omega)] at hDt
      refine r_iload1 (pc := 11) dX8_remember_11 ?_
      refine n_sipush (pc := 12) 7319 (by decide) dX8_remember_12 ?_
      refine n_icmp_ge (pc := 15) 40 (by decide) dX8_remember_15 (by omega) (by omega) (fun hc15 => absurd hc15 (by omega)) (fun hc15 => ?_)
      refine r_aload0 (pc := 18) dX8_remember_18 ?_
      refine r_getf (pc := 19) fl_X8_19 dX8_remember_19 (kget0 rfl) rfl ?_
      refine r_iload1 (pc := 22) dX8_remember_22 ?_
      refine r_aload0 (pc := 23) dX8_remember_23 ?_
      refine r_getf (pc := 24) fl_X8_19 dX8_remember_24 (kget0 rfl) rfl ?_
      refine r_iload1 (pc := 27) dX8_remember_27 ?_
      refine n_sipush (pc := 28) 563 (by decide) dX8_remember_28 ?_
      first | refine n_iadd (pc := 31) dX8_remember_31 ?_ | refine z_iadd (pc := 31) dX8_remember_31 ?_ | refine r_iadd (pc := 31) dX8_remember_31 ?_
      refine n_iald (pc := 32) dX8_remember_32 (kget rfl) (by omega) (by decide) hDt ?_
      refine n_iast (pc := 33) dX8_remember_33 (kget rfl) (by omega) (by decide) ?_
      refine G_M kr3 ?_
      rw [ia_ia]
      refine n_iinc1 (pc := 34) dX8_remember_34 rfl ?_
      refine r_goto (pc := 37) 11 (by decide) dX8_remember_37 ?_
      refine ih _ (fun j => ?_)
      show upd D t (S.2 3 (t + 563)) j = _
      by_cases e : j = t
      · rw [e, upd_same, if_pos (Nat.lt_succ_self _)]
      · rw [upd_ne e, hD]
        by_cases q : j < t
        · rw [if_pos q, if_pos (by omega)]
        · rw [if_neg q, if_neg (by omega)]
set_option maxRecDepth 20000 in
theorem s8_append (h : MODEL S w) (hW : WOK w) {x : Int32} : SpecP mX8_append 12 0 0 [.ref b, .int x] (kset M b S) (tMo M b (A_append x w)) := by
  have hZ := hW.z
  have hd := hZ.dims
  have hI := h.r
  have hk14 := hW.2.1.1
  have hn120 := hW.2.2.2.1
  have ha := h.a
  have hn := h.n
  have hM : kset M b S (b + 2) = some (cI 563 (S.2 1)) := kget rfl
  refine Spec_of [some (.ref b), some (.int x)] (by decide) (Nat.le_of_ble_eq_true rfl) rfl ?_
  have no : ∀ k, 0 < k → k < 10 → A_append x w = rN k w →
    G mX8_append 12 (.inl false) 0 0 (tMo M b (A_append x w)) none 0 0 31 [some (.ref b), some (.int x)] [.int (nI k), .ref b] (kset M b S)
    := by
    intro k h1 h2 e
    refine r_callV1i (pc := 31) lk_X8_167 dX8_append_31 (kget0 rfl) (s8_refused h2) (by decide) (Nat.le_of_ble_eq_true rfl) ⟨Nat.zero_le _, Nat.zero_le _⟩ ?_
    rw [decide_eq_true h1]
    refine b_if_eq (b := true) (pc := 34) 39 (by decide) dX8_append_34 (fun h9 => by cases h9) (fun _ => ?_)
    refine n_iconst_0 (pc := 37) dX8_append_37 ?_
    refine p_ireturn (pc := 38) false rfl rfl rfl dX8_append_38 (Nat.zero_le _) (Nat.zero_le _) (Or.inl rfl) ?_
    rw [e]
    exact ⟨rfl, _, h.ii0 _, rfl, rfl⟩
  have ok :
    G mX8_append 12 (.inl false) 0 0 (tMo M b (A_append x w)) none 0 0 39 [some (.ref b), some (.int x)] [] (kset M b (ii S 0 (nI 0)))
    →
    G mX8_append 12 (.inl false) 0 0 (tMo M b (A_append x w)) none 0 0 31 [some (.ref b), some (.int x)] [.int (nI 0), .ref b] (kset M b S)
    := by
    intro hb9
    refine r_callV1i (pc := 31) lk_X8_167 dX8_append_31 (kget0 rfl) (s8_refused (by decide)) (by decide) (Nat.le_of_ble_eq_true rfl) ⟨Nat.zero_le _, Nat.zero_le _⟩ ?_
    refine b_if_eq (b := false) (pc := 34) 39 (by decide) dX8_append_34 (fun _ => hb9) (fun h9 => by cases h9)
  have ea : A_append x w = if inB x 0 255 then (if wn w = 120 then rN 2 w else rO (nI (wn w + 1)) (w.1, w.2.1, w.2.2.1, wn w + 1, ups (wf w) (wn w) (nm x))) else rN 1 w := rfl
  refine r_aload0 (pc := 0) dX8_append_0 ?_
  refine r_iload1 (pc := 1) dX8_append_1 ?_
  refine r_i2l (pc := 2) dX8_append_2 ?_
  refine r_lconst_0 (pc := 3) dX8_append_3 ?_
  refine r_ldc2 (v := (255)) (pc := 4) (tG 1115 (by decide +kernel) (by decide +kernel)) dX8_append_4 ?_
  refine r_callS3i (pc := 7) lk_X8_50 dX8_append_7 (s8_inAB (a := 0) (b := 255) (by decide) (by decide)) (by decide) (Nat.le_of_ble_eq_true rfl) ⟨Nat.zero_le _, Nat.zero_le _⟩ ?_
  refine b_if_ne (pc := 10) 17 (by decide) dX8_append_10 (fun h1 => ?_) (fun h1 => ?_)
  · obtain ⟨c1, c2, c3⟩ := inB_ex h1 (by omega)
    refine r_aload0 (pc := 17) dX8_append_17 ?_
    refine r_getf (pc := 18) fl_X8_164 dX8_append_18 (kget0 rfl) rfl ?_
    rw [hn]
    refine n_bipush (pc := 21) 120 (by decide) dX8_append_21 ?_
    refine n_icmp_ne (pc := 23) 30 (by decide) dX8_append_23 (by omega) (by omega) (fun h2 => ?_) (fun h2 => ?_)
    · refine n_iconst_0 (pc := 30) dX8_append_30 ?_
      refine ok ?_
      rw [h1, if_neg h2] at ea
      have ea : A_append x w = rO (nI (wn w + 1)) (w.1, w.2.1, w.2.2.1, wn w + 1, ups (wf w) (wn w) (nm x)) := ea
      have hn0 : (ii S 0 (nI 0)).1 1 = nI (wn w) := hn
      refine r_aload0 (pc := 39) dX8_append_39 ?_
      refine r_getf (pc := 40) fl_X8_7 dX8_append_40 (kget0 rfl) rfl ?_
      refine r_aload0 (pc := 43) dX8_append_43 ?_
      refine r_getf (pc := 44) fl_X8_164 dX8_append_44 (kget0 rfl) rfl ?_
      rw [hn0]
      refine r_iload1 (pc := 47) dX8_append_47 ?_
      refine n_iast (pc := 48) dX8_append_48 (kget rfl) (by omega) (by decide) ?_
      refine G_M kr0 ?_
      have hn1 : (ia (ii S 0 (nI 0)) 0 (upd ((ii S 0 (nI 0)).2 0) (wn w) x)).1 1 = nI (wn w) := hn
      refine r_aload0 (pc := 49) dX8_append_49 ?_
      refine r_dup (pc := 50) dX8_append_50 rfl ?_
      refine r_getf (pc := 51) fl_X8_164 dX8_append_51 (kget0 rfl) rfl ?_
      rw [hn1]
      refine n_iconst_1 (pc := 54) dX8_append_54 ?_
      first | refine n_iadd (pc := 55) dX8_append_55 ?_ | refine z_iadd (pc := 55) dX8_append_55 ?_ | refine r_iadd (pc := 55) dX8_append_55 ?_
      refine r_putfI (pc := 56) fl_X8_164 dX8_append_56 (kget0 rfl) (Nat.le_of_ble_eq_true rfl) ?_
      refine G_M bii_X8_2 ?_
      have hn2 : (ii (ia (ii S 0 (nI 0)) 0 (upd ((ii S 0 (nI 0)).2 0) (wn w) x)) 1 (nI (wn w + 1))).1 1 = nI (wn w + 1) := rfl
      refine r_aload0 (pc := 59) dX8_append_59 ?_
      refine r_getf (pc := 60) fl_X8_164 dX8_append_60 (kget0 rfl) rfl ?_
      rw [hn2]
      refine p_ireturn (pc := 63) false rfl rfl rfl dX8_append_63 (Nat.zero_le _) (Nat.zero_le _) (Or.inl rfl) ?_
      rw [ea]
      refine mo rfl rfl ?_
      refine ⟨h.1, ⟨show wn w + 1 ≤ 120 by omega, ?_, rfl, fun i hi => ?_⟩, h.2.2⟩
      · have q := wok_append (c := x) hW
        rw [ea] at q
        exact q.2.2.2.2
      · have hi : i < wn w + 1 := hi
        show upd (S.2 0) (wn w) x i = nI (ups (wf w) (wn w) (nm x) i)
        by_cases e : i = wn w
        · rw [e, upd_same, ups_same, ← c3]
        · rw [upd_ne e, ups_ne e]; exact h.2.1.2.2.2 i (by omega)
    · refine n_iconst_2 (pc := 26) dX8_append_26 ?_
      refine r_goto (pc := 27) 31 (by decide) dX8_append_27 ?_
      exact no 2 (by omega) (by omega) (by rw [ea, h1, if_pos h2]; rfl)
  · refine n_iconst_1 (pc := 13) dX8_append_13 ?_
    refine r_goto (pc := 14) 31 (by decide) dX8_append_14 ?_
    exact no 1 (by omega) (by omega) (by rw [ea, h1]; rfl)
set_option maxRecDepth 20000 in
theorem s8_clearText (h : MODEL S w) (hW : WOK w) : SpecP mX8_clearText 12 0 0 [.ref b] (kset M b S) (tMo M b (A_clearText w)) := by
  have hZ := hW.z
  have hd := hZ.dims
  have hI := h.r
  have hk14 := hW.2.1.1
  have hn120 := hW.2.2.2.1
  have ha := h.a
  have hn := h.n
  have hM : kset M b S (b + 2) = some (cI 563 (S.2 1)) := kget rfl
  refine Spec_of [some (.ref b), none] (by decide) (Nat.le_of_ble_eq_true rfl) rfl ?_
  refine r_aload0 (pc := 0) dX8_clearText_0 ?_
  refine n_iconst_0 (pc := 1) dX8_clearText_1 ?_
  refine r_putfI (pc := 2) fl_X8_36 dX8_clearText_2 (kget0 rfl) (Nat.le_of_ble_eq_true rfl) ?_
  refine G_M bii_X8_0 ?_
  have hn0 : (ii S 0 (nI 0)).1 1 = nI (wn w) := hn
  refine r_aload0 (pc := 5) dX8_clearText_5 ?_
  refine r_getf (pc := 6) fl_X8_164 dX8_clearText_6 (kget0 rfl) rfl ?_
  rw [hn0]
  refine r_istore1 (pc := 9) dX8_clearText_9 rfl ?_
  refine r_aload0 (pc := 10) dX8_clearText_10 ?_
  refine n_iconst_0 (pc := 11) dX8_clearText_11 ?_
  refine r_putfI (pc := 12) fl_X8_164 dX8_clearText_12 (kget0 rfl) (Nat.le_of_ble_eq_true rfl) ?_
  refine G_M bii_X8_2 ?_
  refine r_iload1 (pc := 15) dX8_clearText_15 ?_
  exact p_ireturn (pc := 16) false rfl rfl rfl dX8_clearText_16 (Nat.zero_le _) (Nat.zero_le _) (Or.inl rfl) ⟨rfl, ii (ii S 0 (nI 0)) 1 (nI 0), ⟨h.1, ⟨Nat.zero_le _, fun i hi => absurd hi (Nat.not_lt_zero _), rfl, fun i hi => absurd hi (Nat.not_lt_zero _)⟩, h.2.2⟩, rfl, rfl⟩
set_option maxRecDepth 20000 in
theorem s8_errorPosition (h : MODEL S w) (hW : WOK w) : SpecP mX8_errorPosition 12 0 0 [.ref b] (kset M b S) (tMo M b (A_errorPosition w)) := by
  have hZ := hW.z
  have hd := hZ.dims
  have hI := h.r
  have hk14 := hW.2.1.1
  have hn120 := hW.2.2.2.1
  have ha := h.a
  have hn := h.n
  have hM : kset M b S (b + 2) = some (cI 563 (S.2 1)) := kget rfl
  refine Spec_of [some (.ref b)] (by decide) (Nat.le_of_ble_eq_true rfl) rfl ?_
  have hT0 : TXm (ii S 0 (nI 0)) (wn w) (wf w) := h.2.1
  refine r_aload0 (pc := 0) dX8_errorPosition_0 ?_
  refine n_iconst_0 (pc := 1) dX8_errorPosition_1 ?_
  refine r_putfI (pc := 2) fl_X8_36 dX8_errorPosition_2 (kget0 rfl) (Nat.le_of_ble_eq_true rfl) ?_
  refine G_M bii_X8_0 ?_
  refine r_aload0 (pc := 5) dX8_errorPosition_5 ?_
  refine r_aload0 (pc := 6) dX8_errorPosition_6 ?_
  refine r_getf (pc := 7) fl_X8_16 dX8_errorPosition_7 (kget0 rfl) rfl ?_
  refine r_callV1x (pc := 10) lk_X8_231 dX8_errorPosition_10 (kget0 rfl) (s8_readText hT0)  (by decide) (Nat.le_of_ble_eq_true rfl) ⟨Nat.zero_le _, Nat.zero_le _⟩ (fun M9 h9 => ?_)
  obtain ⟨S', k1, k2, rfl⟩ := h9
  exact p_ireturn (pc := 13) false rfl rfl rfl dX8_errorPosition_13 (Nat.zero_le _) (Nat.zero_le _) (Or.inl rfl) ⟨rfl, S', (h.ii0 (nI 0)).ks k1, (by rw [k1.1 0 (by omega)]; rfl), rfl⟩
set_option maxRecDepth 20000 in
theorem s8_load (h : MODEL S w) (hW : WOK w) : SpecP mX8_load 12 0 0 [.ref b] (kset M b S) (tMo M b (A_load w)) := by
  refine Spec_of [some (.ref b)] (by decide) (Nat.le_of_ble_eq_true rfl) rfl ?_
  refine r_aload0 (pc := 0) dX8_load_0 ?_
  refine r_aload0 (pc := 1) dX8_load_1 ?_
  refine r_aload0 (pc := 2) dX8_load_2 ?_
  refine r_getf (pc := 3) fl_X8_16 dX8_load_3 (kget0 rfl) rfl ?_
  refine r_callV1x (pc := 6) lk_X8_231 dX8_load_6 (kget0 rfl) (s8_readText h.2.1)  (by decide) (Nat.le_of_ble_eq_true rfl) ⟨Nat.zero_le _, Nat.zero_le _⟩ (fun M9 h9 => ?_)
  obtain ⟨S', k1, k2, rfl⟩ := h9
  refine r_iconst_m1 (pc := 9) dX8_load_9 ?_
  cases he : feZ (wn w) (wf w) with
  | some p =>
    have ea : A_load w = rN 1 w := by unfold A_load; rw [he]
    have hne : nI p ≠ -1 := by
      have hp : p < 2147483648 := by
        unfold feZ at he
        split at he
        · cases hw : fw (wn w) (wf w) [110, 115] 1 with
          | some q =>
            rw [hw] at he
            cases he
            have := (fw_bound hW.2.2.2.1 hw).2.1
            simp at this; omega
          | none =>
            rw [hw] at he
            have he : feL (wn w) (wf w) 120 3 = some p := he
            have bound : ∀ fu q, q ≤ 200 + 6 * (120 - fu) → fu ≤ 120 → feL (wn w) (wf w) fu q = some p → p ≤ 2000 := by
              intro fu
              induction fu with
              | zero => intro q h1 h2 h3; cases h3
              | succ fu ih =>
                intro q h1 h2 h3
                by_cases hq : q < wn w
                · cases hk : cmK (wf w q) with
                  | none => rw [feL_no hq hk] at h3; cases h3; omega
                  | some ks =>
                    have hkl := cmK_L hk
                    have hl5 : ks.length ≤ 5 := by
                      rw [← hkl.1]
                      unfold cmL
                      split <;> (try split) <;> (try split) <;> (try split) <;> (try split) <;> (try split) <;> (try split) <;> omega
                    cases hw2 : fw (wn w) (wf w) ks (q + 1) with
                    | some v =>
                      rw [feL_bad hq hk hw2] at h3
                      cases h3
                      have := (fw_bound hW.2.2.2.1 hw2).2.1
                      omega
                    | none =>
                      rw [feL_go hq hk hw2] at h3
                      exact ih _ (by omega) (by omega) h3
                · rw [feL_stop hq] at h3; cases h3
            have := bound 120 3 (by omega) (by omega) he
            omega
        · cases he; omega
      exact nI_ne_m1 hp
    rw [oI_some]
    refine r_icmp_ne (pc := 10) 17 (by decide) dX8_load_10 (fun _ => ?_) (fun h9 => absurd h9 hne)
    refine n_iconst_1 (pc := 17) dX8_load_17 ?_
    refine r_callV1i (pc := 18) lk_X8_167 dX8_load_18 (kget0 rfl) (s8_refused (k := 1) (by decide)) (by decide) (Nat.le_of_ble_eq_true rfl) ⟨Nat.zero_le _, Nat.zero_le _⟩ ?_
    refine b_if_eq (b := true) (pc := 21) 26 (by decide) dX8_load_21 (fun h9 => by cases h9) (fun _ => ?_)
    refine n_iconst_0 (pc := 24) dX8_load_24 ?_
    refine p_ireturn (pc := 25) false rfl rfl rfl dX8_load_25 (Nat.zero_le _) (Nat.zero_le _) (Or.inl rfl) ?_
    rw [ea]
    exact ⟨rfl, _, (h.ks k1).ii0 _, rfl, rfl⟩
  | none =>
    have ea : A_load w = rO (nI (txZ (wn w) (wf w)).2) ((txZ (wn w) (wf w)).1, (0, wg w), (fun _ => none), wn w, wf w) := by unfold A_load; rw [he]
    obtain ⟨q1, q2, q3, q4⟩ := k2 he
    refine r_icmp_ne (pc := 10) 17 (by decide) dX8_load_10 (fun h9 => absurd rfl h9) (fun _ => ?_)
    refine n_iconst_0 (pc := 13) dX8_load_13 ?_
    refine r_goto (pc := 14) 18 (by decide) dX8_load_14 ?_
    refine r_callV1i (pc := 18) lk_X8_167 dX8_load_18 (kget0 rfl) (s8_refused (k := 0) (by decide)) (by decide) (Nat.le_of_ble_eq_true rfl) ⟨Nat.zero_le _, Nat.zero_le _⟩ ?_
    refine b_if_eq (b := false) (pc := 21) 26 (by decide) dX8_load_21 (fun _ => ?_) (fun h9 => by cases h9)
    refine r_aload0 (pc := 26) dX8_load_26 ?_
    refine r_getf (pc := 27) fl_X8_16 dX8_load_27 (kget0 rfl) rfl ?_
    refine n_iconst_0 (pc := 30) dX8_load_30 ?_
    refine r_aload0 (pc := 31) dX8_load_31 ?_
    refine r_getf (pc := 32) fl_X8_13 dX8_load_32 (kget0 rfl) rfl ?_
    refine n_iconst_0 (pc := 35) dX8_load_35 ?_
    refine r_callS4v (pc := 36) lk_X8_234 dX8_load_36 cp_21 (by decide) (Nat.le_of_ble_eq_true rfl) ⟨Nat.zero_le _, Nat.zero_le _⟩ ?_
    refine r_aload0 (pc := 39) dX8_load_39 ?_
    refine n_iconst_0 (pc := 40) dX8_load_40 ?_
    refine r_putfI (pc := 41) fl_X8_238 dX8_load_41 (kget0 rfl) (Nat.le_of_ble_eq_true rfl) ?_
    refine G_M bii_X8_6 ?_
    refine r_aload0 (pc := 44) dX8_load_44 ?_
    refine r_getf (pc := 45) fl_X8_25 dX8_load_45 (kget0 rfl) rfl ?_
    refine n_iconst_0 (pc := 48) dX8_load_48 ?_
    refine n_iconst_0 (pc := 49) dX8_load_49 ?_
    refine n_zast (pc := 50) dX8_load_50 (kget rfl) (by decide) (by decide) ?_
    refine G_M kr5 ?_
    refine r_aload0 (pc := 51) dX8_load_51 ?_
    refine r_getf (pc := 52) fl_X8_25 dX8_load_52 (kget0 rfl) rfl ?_
    refine n_iconst_1 (pc := 55) dX8_load_55 ?_
    refine n_iconst_0 (pc := 56) dX8_load_56 ?_
    refine n_zast (pc := 57) dX8_load_57 (kget rfl) (by decide) (by decide) ?_
    refine G_M kr5 ?_
    refine r_aload0 (pc := 58) dX8_load_58 ?_
    refine r_getf (pc := 59) fl_X8_176 dX8_load_59 (kget0 rfl) rfl ?_
    refine p_ireturn (pc := 62) false rfl rfl rfl dX8_load_62 (Nat.zero_le _) (Nat.zero_le _) (Or.inl rfl) ?_
    rw [ea]
    have hT := (h.ks k1).2.1
    refine mo q4 rfl ?_
    refine ⟨InvR.cg q1 q2 (fun j hj => ?_), ⟨hT.1, hT.2.1, hT.2.2.1, hT.2.2.2⟩, ⟨rfl, fun i hi => absurd hi (Nat.not_lt_zero _)⟩, fun s hs => ⟨?_, fun y hy => by cases hy⟩⟩
    · show cpR (S'.2 2) (S'.2 1) 0 0 563 j = S'.2 2 j
      have e := cpR_in (f := S'.2 2) (g := S'.2 1) (i0 := 0) (i1 := 0) (n := 563) hj
      rw [Nat.zero_add] at e
      exact e
    · show upd (upd (S'.2 5) 0 (vp_nar .boolean (nI 0))) 1 (vp_nar .boolean (nI 0)) s = bI false
      rw [nar_bo0]
      have c : s = 0 ∨ s = 1 := by omega
      rcases c with c | c <;> subst c
      · rw [upd_ne (by omega), upd_same]
      · rw [upd_same]
set_option maxRecDepth 20000 in
theorem s8_begin (h : MODEL S w) (hW : WOK w) {x y : Int32} : SpecP mX8_begin 12 0 0 [.ref b, .int x, .int y] (kset M b S) (tMo M b (A_begin x y w)) := by
  have hZ := hW.z
  have hd := hZ.dims
  have hI := h.r
  have hk14 := hW.2.1.1
  have hn120 := hW.2.2.2.1
  have ha := h.a
  have hn := h.n
  have hM : kset M b S (b + 2) = some (cI 563 (S.2 1)) := kget rfl
  refine Spec_of [some (.ref b), some (.int x), some (.int y)] (by decide) (Nat.le_of_ble_eq_true rfl) rfl ?_
  have no : ∀ k, 0 < k → k < 10 → A_begin x y w = rN k w →
    G mX8_begin 12 (.inl false) 0 0 (tMo M b (A_begin x y w)) none 0 0 32 [some (.ref b), some (.int x), some (.int y)] [.int (nI k), .ref b] (kset M b S)
    := by
    intro k h1 h2 e
    refine r_callV1i (pc := 32) lk_X8_167 dX8_begin_32 (kget0 rfl) (s8_refused h2) (by decide) (Nat.le_of_ble_eq_true rfl) ⟨Nat.zero_le _, Nat.zero_le _⟩ ?_
    rw [decide_eq_true h1]
    refine b_if_eq (b := true) (pc := 35) 40 (by decide) dX8_begin_35 (fun h9 => by cases h9) (fun _ => ?_)
    refine n_iconst_0 (pc := 38) dX8_begin_38 ?_
    refine p_ireturn (pc := 39) false rfl rfl rfl dX8_begin_39 (Nat.zero_le _) (Nat.zero_le _) (Or.inl rfl) ?_
    rw [e]
    exact ⟨rfl, _, h.ii0 _, rfl, rfl⟩
  have ok :
    G mX8_begin 12 (.inl false) 0 0 (tMo M b (A_begin x y w)) none 0 0 40 [some (.ref b), some (.int x), some (.int y)] [] (kset M b (ii S 0 (nI 0)))
    →
    G mX8_begin 12 (.inl false) 0 0 (tMo M b (A_begin x y w)) none 0 0 32 [some (.ref b), some (.int x), some (.int y)] [.int (nI 0), .ref b] (kset M b S)
    := by
    intro hb9
    refine r_callV1i (pc := 32) lk_X8_167 dX8_begin_32 (kget0 rfl) (s8_refused (by decide)) (by decide) (Nat.le_of_ble_eq_true rfl) ⟨Nat.zero_le _, Nat.zero_le _⟩ ?_
    refine b_if_eq (b := false) (pc := 35) 40 (by decide) dX8_begin_35 (fun _ => hb9) (fun h9 => by cases h9)
  have ea : A_begin x y w = if inB x 2 6 && inB y 1 2 then rO (nI (zt (startZ (nm x) (nm y)))) (wAct w (startZ (nm x) (nm y))) else rN 1 w := rfl
  refine r_aload0 (pc := 0) dX8_begin_0 ?_
  refine r_iload1 (pc := 1) dX8_begin_1 ?_
  refine r_i2l (pc := 2) dX8_begin_2 ?_
  refine r_ldc2 (v := (2)) (pc := 3) (tG 1320 (by decide +kernel) (by decide +kernel)) dX8_begin_3 ?_
  refine r_ldc2 (v := (6)) (pc := 6) (tG 1315 (by decide +kernel) (by decide +kernel)) dX8_begin_6 ?_
  refine r_callS3i (pc := 9) lk_X8_50 dX8_begin_9 (s8_inAB (a := 2) (b := 6) (by decide) (by decide)) (by decide) (Nat.le_of_ble_eq_true rfl) ⟨Nat.zero_le _, Nat.zero_le _⟩ ?_
  refine b_if_eq (pc := 12) 31 (by decide) dX8_begin_12 (fun h1 => ?_) (fun h1 => ?_)
  · refine n_iconst_1 (pc := 31) dX8_begin_31 ?_
    exact no 1 (by omega) (by omega) (by rw [ea, h1]; rfl)
  · refine r_iload2 (pc := 15) dX8_begin_15 ?_
    refine r_i2l (pc := 16) dX8_begin_16 ?_
    refine r_lconst_1 (pc := 17) dX8_begin_17 ?_
    refine r_ldc2 (v := (2)) (pc := 18) (tG 1320 (by decide +kernel) (by decide +kernel)) dX8_begin_18 ?_
    refine r_callS3i (pc := 21) lk_X8_50 dX8_begin_21 (s8_inAB (a := 1) (b := 2) (by decide) (by decide)) (by decide) (Nat.le_of_ble_eq_true rfl) ⟨Nat.zero_le _, Nat.zero_le _⟩ ?_
    refine b_if_eq (pc := 24) 31 (by decide) dX8_begin_24 (fun h2 => ?_) (fun h2 => ?_)
    · refine n_iconst_1 (pc := 31) dX8_begin_31 ?_
      exact no 1 (by omega) (by omega) (by rw [ea, h1, h2]; rfl)
    · rw [h1, h2] at ea
      have ea : A_begin x y w = rO (nI (zt (startZ (nm x) (nm y)))) (wAct w (startZ (nm x) (nm y))) := ea
      obtain ⟨c1, c2, c3⟩ := inB_ex h1 (by omega)
      obtain ⟨e1, e2, e3⟩ := inB_ex h2 (by omega)
      refine n_iconst_0 (pc := 27) dX8_begin_27 ?_
      refine r_goto (pc := 28) 32 (by decide) dX8_begin_28 ?_
      refine ok ?_
      generalize nm x = n at *
      generalize nm y = m at *
      subst c3 e3
      refine r_aload0 (pc := 40) dX8_begin_40 ?_
      refine r_callV0w (pc := 41) lk_X8_258 dX8_begin_41 (kget0 rfl) (s8_remember (S := ii S 0 (nI 0)) (h.ii0 _) hW)  (by decide) (Nat.le_of_ble_eq_true rfl) ⟨Nat.zero_le _, Nat.zero_le _⟩ (fun M9 h9 => ?_)
      obtain ⟨S1, h1, k1, rfl⟩ := h9
      refine r_aload0 (pc := 44) dX8_begin_44 ?_
      refine r_getf (pc := 45) fl_X8_13 dX8_begin_45 (kget0 rfl) rfl ?_
      refine r_iload1 (pc := 48) dX8_begin_48 ?_
      refine r_iload2 (pc := 49) dX8_begin_49 ?_
      refine r_callS3w (pc := 50) lk_X8_32 dX8_begin_50 (hK1.to (M := M) (b := b) (S := S1) (s8_start c1 c2 e1 e2))  (by decide) (Nat.le_of_ble_eq_true rfl) ⟨Nat.zero_le _, Nat.zero_le _⟩ (fun M9 h9 => ?_)
      obtain ⟨f', hI2, rfl⟩ := h9
      refine r_aload0 (pc := 53) dX8_begin_53 ?_
      refine r_getf (pc := 54) fl_X8_13 dX8_begin_54 (kget0 rfl) rfl ?_
      refine r_callS1i (pc := 57) lk_X8_54 dX8_begin_57 (s8_tiles (kget rfl) hI2 (startZ_ok c1 c2 e1 e2)) (by decide) (Nat.le_of_ble_eq_true rfl) ⟨Nat.zero_le _, Nat.zero_le _⟩ ?_
      refine p_ireturn (pc := 60) false rfl rfl rfl dX8_begin_60 (Nat.zero_le _) (Nat.zero_le _) (Or.inl rfl) ?_
      rw [ea]
      exact ⟨rfl, _, h1.now hI2, k1, rfl⟩
set_option maxRecDepth 20000 in
theorem s8_grey (h : MODEL S w) (hW : WOK w) {x y g : Int32} : SpecP mX8_grey 12 0 0 [.ref b, .int x, .int y, .int g] (kset M b S) (tMo M b (A_grey x y g w)) := by
  have hZ := hW.z
  have hd := hZ.dims
  have hI := h.r
  have hk14 := hW.2.1.1
  have hn120 := hW.2.2.2.1
  have ha := h.a
  have hn := h.n
  have hM : kset M b S (b + 2) = some (cI 563 (S.2 1)) := kget rfl
  refine Spec_of [some (.ref b), some (.int x), some (.int y), some (.int g)] (by decide) (Nat.le_of_ble_eq_true rfl) rfl ?_
  have no : ∀ k, 0 < k → k < 10 → A_grey x y g w = rN k w →
    G mX8_grey 12 (.inl false) 0 0 (tMo M b (A_grey x y g w)) none 0 0 34 [some (.ref b), some (.int x), some (.int y), some (.int g)] [.int (nI k), .ref b] (kset M b S)
    := by
    intro k h1 h2 e
    refine r_callV1i (pc := 34) lk_X8_167 dX8_grey_34 (kget0 rfl) (s8_refused h2) (by decide) (Nat.le_of_ble_eq_true rfl) ⟨Nat.zero_le _, Nat.zero_le _⟩ ?_
    rw [decide_eq_true h1]
    refine b_if_eq (b := true) (pc := 37) 42 (by decide) dX8_grey_37 (fun h9 => by cases h9) (fun _ => ?_)
    refine n_iconst_0 (pc := 40) dX8_grey_40 ?_
    refine p_ireturn (pc := 41) false rfl rfl rfl dX8_grey_41 (Nat.zero_le _) (Nat.zero_le _) (Or.inl rfl) ?_
    rw [e]
    exact ⟨rfl, _, h.ii0 _, rfl, rfl⟩
  have ok :
    G mX8_grey 12 (.inl false) 0 0 (tMo M b (A_grey x y g w)) none 0 0 42 [some (.ref b), some (.int x), some (.int y), some (.int g)] [] (kset M b (ii S 0 (nI 0)))
    →
    G mX8_grey 12 (.inl false) 0 0 (tMo M b (A_grey x y g w)) none 0 0 34 [some (.ref b), some (.int x), some (.int y), some (.int g)] [.int (nI 0), .ref b] (kset M b S)
    := by
    intro hb9
    refine r_callV1i (pc := 34) lk_X8_167 dX8_grey_34 (kget0 rfl) (s8_refused (by decide)) (by decide) (Nat.le_of_ble_eq_true rfl) ⟨Nat.zero_le _, Nat.zero_le _⟩ ?_
    refine b_if_eq (b := false) (pc := 37) 42 (by decide) dX8_grey_37 (fun _ => hb9) (fun h9 => by cases h9)
  have ea : A_grey x y g w = if inQ (wz w) x y then (if inB g 0 99 then rO (nI (zG (wz w) (sqn (wz w) x y))) (wAct w (greyZ (wz w) (sqn (wz w) x y) (nm g))) else rN 2 w) else rN 1 w := rfl
  refine r_aload0 (pc := 0) dX8_grey_0 ?_
  refine r_aload0 (pc := 1) dX8_grey_1 ?_
  refine r_getf (pc := 2) fl_X8_13 dX8_grey_2 (kget0 rfl) rfl ?_
  refine r_iload1 (pc := 5) dX8_grey_5 ?_
  refine r_iload2 (pc := 6) dX8_grey_6 ?_
  refine r_callS3i (pc := 7) lk_X8_158 dX8_grey_7 (s8_isSquare hM hI hZ) (by decide) (Nat.le_of_ble_eq_true rfl) ⟨Nat.zero_le _, Nat.zero_le _⟩ ?_
  refine b_if_ne (pc := 10) 17 (by decide) dX8_grey_10 (fun h1 => ?_) (fun h1 => ?_)
  · refine r_iload3 (pc := 17) dX8_grey_17 ?_
    refine r_i2l (pc := 18) dX8_grey_18 ?_
    refine r_lconst_0 (pc := 19) dX8_grey_19 ?_
    refine r_ldc2 (v := (99)) (pc := 20) (tG 1336 (by decide +kernel) (by decide +kernel)) dX8_grey_20 ?_
    refine r_callS3i (pc := 23) lk_X8_50 dX8_grey_23 (s8_inAB (a := 0) (b := 99) (by decide) (by decide)) (by decide) (Nat.le_of_ble_eq_true rfl) ⟨Nat.zero_le _, Nat.zero_le _⟩ ?_
    have hq : inQ (wz w) x y = true := h1
    rw [hq] at ea
    have ea : A_grey x y g w = if inB g 0 99 then rO (nI (zG (wz w) (sqn (wz w) x y))) (wAct w (greyZ (wz w) (sqn (wz w) x y) (nm g))) else rN 2 w := ea
    refine b_if_eq (pc := 26) 33 (by decide) dX8_grey_26 (fun h2 => ?_) (fun h2 => ?_)
    · refine n_iconst_2 (pc := 33) dX8_grey_33 ?_
      exact no 2 (by omega) (by omega) (by rw [ea, h2]; rfl)
    · rw [h2] at ea
      have ea : A_grey x y g w = rO (nI (zG (wz w) (sqn (wz w) x y))) (wAct w (greyZ (wz w) (sqn (wz w) x y) (nm g))) := ea
      rw [Bool.and_eq_true] at h1
      obtain ⟨c1, c2⟩ := inR_nm h1.1 (by omega)
      obtain ⟨e1, e2⟩ := inR_nm h1.2 (by omega)
      obtain ⟨g1, g2, g3⟩ := inB_ex h2 (by omega)
      unfold sqn at ea
      refine n_iconst_0 (pc := 29) dX8_grey_29 ?_
      refine r_goto (pc := 30) 34 (by decide) dX8_grey_30 ?_
      refine ok ?_
      generalize nm x = n at *
      generalize nm y = m at *
      generalize nm g = gg at *
      subst c2 e2 g3
      refine r_aload0 (pc := 42) dX8_grey_42 ?_
      refine r_callV0w (pc := 43) lk_X8_258 dX8_grey_43 (kget0 rfl) (s8_remember (S := ii S 0 (nI 0)) (h.ii0 _) hW)  (by decide) (Nat.le_of_ble_eq_true rfl) ⟨Nat.zero_le _, Nat.zero_le _⟩ (fun M9 h9 => ?_)
      obtain ⟨S1, h1, k1, rfl⟩ := h9
      refine r_aload0 (pc := 46) dX8_grey_46 ?_
      refine r_getf (pc := 47) fl_X8_13 dX8_grey_47 (kget0 rfl) rfl ?_
      refine r_iload1 (pc := 50) dX8_grey_50 ?_
      refine r_iload2 (pc := 51) dX8_grey_51 ?_
      refine r_iload3 (pc := 52) dX8_grey_52 ?_
      refine r_callS4x (pc := 53) lk_X8_195 dX8_grey_53 (hK1.to (M := M) (b := b) (S := S1) (s8_greyOn (g := gg) h1.r hZ c1 e1))  (by decide) (Nat.le_of_ble_eq_true rfl) ⟨Nat.zero_le _, Nat.zero_le _⟩ (fun M9 h9 => ?_)
      obtain ⟨f', hI2, rfl⟩ := h9
      refine p_ireturn (pc := 56) false rfl rfl rfl dX8_grey_56 (Nat.zero_le _) (Nat.zero_le _) (Or.inl rfl) ?_
      rw [ea]
      exact ⟨rfl, _, h1.now hI2, k1, rfl⟩
  · refine n_iconst_1 (pc := 13) dX8_grey_13 ?_
    refine r_goto (pc := 14) 34 (by decide) dX8_grey_14 ?_
    have hq : inQ (wz w) x y = false := h1
    exact no 1 (by omega) (by omega) (by rw [ea, hq]; rfl)
set_option maxRecDepth 20000 in
theorem s8_fade (h : MODEL S w) (hW : WOK w) {x y : Int32} : SpecP mX8_fade 12 0 0 [.ref b, .int x, .int y] (kset M b S) (tMo M b (A_fade x y w)) := by
  have hZ := hW.z
  have hd := hZ.dims
  have hI := h.r
  have hk14 := hW.2.1.1
  have hn120 := hW.2.2.2.1
  have ha := h.a
  have hn := h.n
  have hM : kset M b S (b + 2) = some (cI 563 (S.2 1)) := kget rfl
  refine Spec_of [some (.ref b), some (.int x), some (.int y)] (by decide) (Nat.le_of_ble_eq_true rfl) rfl ?_
  have no : ∀ k, 0 < k → k < 10 → A_fade x y w = rN k w →
    G mX8_fade 12 (.inl false) 0 0 (tMo M b (A_fade x y w)) none 0 0 30 [some (.ref b), some (.int x), some (.int y)] [.int (nI k), .ref b] (kset M b S)
    := by
    intro k h1 h2 e
    refine r_callV1i (pc := 30) lk_X8_167 dX8_fade_30 (kget0 rfl) (s8_refused h2) (by decide) (Nat.le_of_ble_eq_true rfl) ⟨Nat.zero_le _, Nat.zero_le _⟩ ?_
    rw [decide_eq_true h1]
    refine b_if_eq (b := true) (pc := 33) 38 (by decide) dX8_fade_33 (fun h9 => by cases h9) (fun _ => ?_)
    refine n_iconst_0 (pc := 36) dX8_fade_36 ?_
    refine p_ireturn (pc := 37) false rfl rfl rfl dX8_fade_37 (Nat.zero_le _) (Nat.zero_le _) (Or.inl rfl) ?_
    rw [e]
    exact ⟨rfl, _, h.ii0 _, rfl, rfl⟩
  have ok :
    G mX8_fade 12 (.inl false) 0 0 (tMo M b (A_fade x y w)) none 0 0 38 [some (.ref b), some (.int x), some (.int y)] [] (kset M b (ii S 0 (nI 0)))
    →
    G mX8_fade 12 (.inl false) 0 0 (tMo M b (A_fade x y w)) none 0 0 30 [some (.ref b), some (.int x), some (.int y)] [.int (nI 0), .ref b] (kset M b S)
    := by
    intro hb9
    refine r_callV1i (pc := 30) lk_X8_167 dX8_fade_30 (kget0 rfl) (s8_refused (by decide)) (by decide) (Nat.le_of_ble_eq_true rfl) ⟨Nat.zero_le _, Nat.zero_le _⟩ ?_
    refine b_if_eq (b := false) (pc := 33) 38 (by decide) dX8_fade_33 (fun _ => hb9) (fun h9 => by cases h9)
  have ea : A_fade x y w = if inB x 0 99 && inB y 0 99 then rO (iI (erAll (fadeZ (wz w) (nm x) (nm y)))) (wAct w (fadeZ (wz w) (nm x) (nm y))) else rN 1 w := rfl
  refine r_aload0 (pc := 0) dX8_fade_0 ?_
  refine r_iload1 (pc := 1) dX8_fade_1 ?_
  refine r_i2l (pc := 2) dX8_fade_2 ?_
  refine r_lconst_0 (pc := 3) dX8_fade_3 ?_
  refine r_ldc2 (v := (99)) (pc := 4) (tG 1336 (by decide +kernel) (by decide +kernel)) dX8_fade_4 ?_
  refine r_callS3i (pc := 7) lk_X8_50 dX8_fade_7 (s8_inAB (a := 0) (b := 99) (by decide) (by decide)) (by decide) (Nat.le_of_ble_eq_true rfl) ⟨Nat.zero_le _, Nat.zero_le _⟩ ?_
  refine b_if_eq (pc := 10) 29 (by decide) dX8_fade_10 (fun h1 => ?_) (fun h1 => ?_)
  · refine n_iconst_1 (pc := 29) dX8_fade_29 ?_
    exact no 1 (by omega) (by omega) (by rw [ea, h1]; rfl)
  · refine r_iload2 (pc := 13) dX8_fade_13 ?_
    refine r_i2l (pc := 14) dX8_fade_14 ?_
    refine r_lconst_0 (pc := 15) dX8_fade_15 ?_
    refine r_ldc2 (v := (99)) (pc := 16) (tG 1336 (by decide +kernel) (by decide +kernel)) dX8_fade_16 ?_
    refine r_callS3i (pc := 19) lk_X8_50 dX8_fade_19 (s8_inAB (a := 0) (b := 99) (by decide) (by decide)) (by decide) (Nat.le_of_ble_eq_true rfl) ⟨Nat.zero_le _, Nat.zero_le _⟩ ?_
    refine b_if_eq (pc := 22) 29 (by decide) dX8_fade_22 (fun h2 => ?_) (fun h2 => ?_)
    · refine n_iconst_1 (pc := 29) dX8_fade_29 ?_
      exact no 1 (by omega) (by omega) (by rw [ea, h1, h2]; rfl)
    · rw [h1, h2] at ea
      have ea : A_fade x y w = rO (iI (erAll (fadeZ (wz w) (nm x) (nm y)))) (wAct w (fadeZ (wz w) (nm x) (nm y))) := ea
      obtain ⟨c1, c2, c3⟩ := inB_ex h1 (by omega)
      obtain ⟨e1, e2, e3⟩ := inB_ex h2 (by omega)
      refine n_iconst_0 (pc := 25) dX8_fade_25 ?_
      refine r_goto (pc := 26) 30 (by decide) dX8_fade_26 ?_
      refine ok ?_
      generalize nm x = n at *
      generalize nm y = m at *
      subst c3 e3
      refine r_aload0 (pc := 38) dX8_fade_38 ?_
      refine r_callV0w (pc := 39) lk_X8_258 dX8_fade_39 (kget0 rfl) (s8_remember (S := ii S 0 (nI 0)) (h.ii0 _) hW)  (by decide) (Nat.le_of_ble_eq_true rfl) ⟨Nat.zero_le _, Nat.zero_le _⟩ (fun M9 h9 => ?_)
      obtain ⟨S1, h1, k1, rfl⟩ := h9
      refine r_aload0 (pc := 42) dX8_fade_42 ?_
      refine r_getf (pc := 43) fl_X8_13 dX8_fade_43 (kget0 rfl) rfl ?_
      refine r_iload1 (pc := 46) dX8_fade_46 ?_
      refine r_iload2 (pc := 47) dX8_fade_47 ?_
      refine r_callS3w (pc := 48) lk_X8_179 dX8_fade_48 (hK1.to (M := M) (b := b) (S := S1) (s8_fadeOn h1.r hZ c2 e2))  (by decide) (Nat.le_of_ble_eq_true rfl) ⟨Nat.zero_le _, Nat.zero_le _⟩ (fun M9 h9 => ?_)
      obtain ⟨f', hI2, rfl⟩ := h9
      refine r_aload0 (pc := 51) dX8_fade_51 ?_
      refine r_getf (pc := 52) fl_X8_13 dX8_fade_52 (kget0 rfl) rfl ?_
      refine r_callS1i (pc := 55) lk_X8_146 dX8_fade_55 (s8_wholeError (kget rfl) hI2 (fadeZ_ok hZ c2 e2)) (by decide) (Nat.le_of_ble_eq_true rfl) ⟨Nat.zero_le _, Nat.zero_le _⟩ ?_
      refine p_ireturn (pc := 58) false rfl rfl rfl dX8_fade_58 (Nat.zero_le _) (Nat.zero_le _) (Or.inl rfl) ?_
      rw [ea]
      exact ⟨rfl, _, h1.now hI2, k1, rfl⟩
set_option maxRecDepth 20000 in
theorem s8_turn (h : MODEL S w) (hW : WOK w) {x : Int32} : SpecP mX8_turn 12 0 0 [.ref b, .int x] (kset M b S) (tMo M b (A_turn x w)) := by
  have hZ := hW.z
  have hd := hZ.dims
  have hI := h.r
  have hk14 := hW.2.1.1
  have hn120 := hW.2.2.2.1
  have ha := h.a
  have hn := h.n
  have hM : kset M b S (b + 2) = some (cI 563 (S.2 1)) := kget rfl
  refine Spec_of [some (.ref b), some (.int x)] (by decide) (Nat.le_of_ble_eq_true rfl) rfl ?_
  have no : ∀ k, 0 < k → k < 10 → A_turn x w = rN k w →
    G mX8_turn 12 (.inl false) 0 0 (tMo M b (A_turn x w)) none 0 0 32 [some (.ref b), some (.int x)] [.int (nI k), .ref b] (kset M b S)
    := by
    intro k h1 h2 e
    refine r_callV1i (pc := 32) lk_X8_167 dX8_turn_32 (kget0 rfl) (s8_refused h2) (by decide) (Nat.le_of_ble_eq_true rfl) ⟨Nat.zero_le _, Nat.zero_le _⟩ ?_
    rw [decide_eq_true h1]
    refine b_if_eq (b := true) (pc := 35) 40 (by decide) dX8_turn_35 (fun h9 => by cases h9) (fun _ => ?_)
    refine n_iconst_0 (pc := 38) dX8_turn_38 ?_
    refine p_ireturn (pc := 39) false rfl rfl rfl dX8_turn_39 (Nat.zero_le _) (Nat.zero_le _) (Or.inl rfl) ?_
    rw [e]
    exact ⟨rfl, _, h.ii0 _, rfl, rfl⟩
  have ok :
    G mX8_turn 12 (.inl false) 0 0 (tMo M b (A_turn x w)) none 0 0 40 [some (.ref b), some (.int x)] [] (kset M b (ii S 0 (nI 0)))
    →
    G mX8_turn 12 (.inl false) 0 0 (tMo M b (A_turn x w)) none 0 0 32 [some (.ref b), some (.int x)] [.int (nI 0), .ref b] (kset M b S)
    := by
    intro hb9
    refine r_callV1i (pc := 32) lk_X8_167 dX8_turn_32 (kget0 rfl) (s8_refused (by decide)) (by decide) (Nat.le_of_ble_eq_true rfl) ⟨Nat.zero_le _, Nat.zero_le _⟩ ?_
    refine b_if_eq (b := false) (pc := 35) 40 (by decide) dX8_turn_35 (fun _ => hb9) (fun h9 => by cases h9)
  have ea : A_turn x w = if inR x (zt (wz w)) then (if zH (wz w) (nm x) = 0 then rO (iI (tgZ (wz w) (nm x))) (wAct w (turnZ (wz w) (nm x))) else rN 2 w) else rN 1 w := rfl
  refine r_aload0 (pc := 0) dX8_turn_0 ?_
  refine r_aload0 (pc := 1) dX8_turn_1 ?_
  refine r_getf (pc := 2) fl_X8_13 dX8_turn_2 (kget0 rfl) rfl ?_
  refine r_iload1 (pc := 5) dX8_turn_5 ?_
  refine r_callS2i (pc := 6) lk_X8_152 dX8_turn_6 (s8_isPlace hM hI hZ) (by decide) (Nat.le_of_ble_eq_true rfl) ⟨Nat.zero_le _, Nat.zero_le _⟩ ?_
  refine b_if_ne (pc := 9) 16 (by decide) dX8_turn_9 (fun h1 => ?_) (fun h1 => ?_)
  · rw [h1] at ea
    have ea : A_turn x w = if zH (wz w) (nm x) = 0 then rO (iI (tgZ (wz w) (nm x))) (wAct w (turnZ (wz w) (nm x))) else rN 2 w := ea
    obtain ⟨c1, c2⟩ := inR_nm h1 (by omega)
    generalize nm x = n at *
    subst c2
    refine r_aload0 (pc := 16) dX8_turn_16 ?_
    refine r_getf (pc := 17) fl_X8_13 dX8_turn_17 (kget0 rfl) rfl ?_
    refine r_iload1 (pc := 20) dX8_turn_20 ?_
    refine r_callS2i (pc := 21) lk_X8_155 dX8_turn_21 (s8_canTurn hM hI hZ (by omega)) (by decide) (Nat.le_of_ble_eq_true rfl) ⟨Nat.zero_le _, Nat.zero_le _⟩ ?_
    have ec : canT (wz w) n = decide (zH (wz w) n = 0) := by unfold canT; rw [decide_eq_true c1]; rfl
    rw [ec]
    refine b_if_eq (pc := 24) 31 (by decide) dX8_turn_24 (fun h2 => ?_) (fun h2 => ?_)
    · refine n_iconst_2 (pc := 31) dX8_turn_31 ?_
      exact no 2 (by omega) (by omega) (by rw [ea, if_neg (of_decide_eq_false h2)])
    · rw [if_pos (of_decide_eq_true h2)] at ea
      refine n_iconst_0 (pc := 27) dX8_turn_27 ?_
      refine r_goto (pc := 28) 32 (by decide) dX8_turn_28 ?_
      refine ok ?_
      refine r_aload0 (pc := 40) dX8_turn_40 ?_
      refine r_callV0w (pc := 41) lk_X8_258 dX8_turn_41 (kget0 rfl) (s8_remember (S := ii S 0 (nI 0)) (h.ii0 _) hW)  (by decide) (Nat.le_of_ble_eq_true rfl) ⟨Nat.zero_le _, Nat.zero_le _⟩ (fun M9 h9 => ?_)
      obtain ⟨S1, h1, k1, rfl⟩ := h9
      refine r_aload0 (pc := 44) dX8_turn_44 ?_
      refine r_getf (pc := 45) fl_X8_13 dX8_turn_45 (kget0 rfl) rfl ?_
      refine r_aload0 (pc := 48) dX8_turn_48 ?_
      refine r_getf (pc := 49) fl_X8_13 dX8_turn_49 (kget0 rfl) rfl ?_
      refine r_iload1 (pc := 52) dX8_turn_52 ?_
      refine r_callS2i (pc := 53) lk_X8_123 dX8_turn_53 (s8_firstOf (kget rfl) h1.r hZ c1) (by decide) (Nat.le_of_ble_eq_true rfl) ⟨Nat.zero_le _, Nat.zero_le _⟩ ?_
      refine r_callS2x (pc := 56) lk_X8_126 dX8_turn_56 (hK1.to (M := M) (b := b) (S := S1) (s8_turnOn h1.r hZ c1))  (by decide) (Nat.le_of_ble_eq_true rfl) ⟨Nat.zero_le _, Nat.zero_le _⟩ (fun M9 h9 => ?_)
      obtain ⟨f', hI2, rfl⟩ := h9
      refine p_ireturn (pc := 59) false rfl rfl rfl dX8_turn_59 (Nat.zero_le _) (Nat.zero_le _) (Or.inl rfl) ?_
      rw [ea]
      exact ⟨rfl, _, h1.now hI2, k1, rfl⟩
  · refine n_iconst_1 (pc := 12) dX8_turn_12 ?_
    refine r_goto (pc := 13) 32 (by decide) dX8_turn_13 ?_
    exact no 1 (by omega) (by omega) (by rw [ea, h1]; rfl)
set_option maxRecDepth 20000 in
theorem s8_swap (h : MODEL S w) (hW : WOK w) {x y : Int32} : SpecP mX8_swap 12 0 0 [.ref b, .int x, .int y] (kset M b S) (tMo M b (A_swap x y w)) := by
  have hZ := hW.z
  have hd := hZ.dims
  have hI := h.r
  have hk14 := hW.2.1.1
  have hn120 := hW.2.2.2.1
  have ha := h.a
  have hn := h.n
  have hM : kset M b S (b + 2) = some (cI 563 (S.2 1)) := kget rfl
  refine Spec_of [some (.ref b), some (.int x), some (.int y)] (by decide) (Nat.le_of_ble_eq_true rfl) rfl ?_
  have no : ∀ k, 0 < k → k < 10 → A_swap x y w = rN k w →
    G mX8_swap 12 (.inl false) 0 0 (tMo M b (A_swap x y w)) none 0 0 53 [some (.ref b), some (.int x), some (.int y)] [.int (nI k), .ref b] (kset M b S)
    := by
    intro k h1 h2 e
    refine r_callV1i (pc := 53) lk_X8_167 dX8_swap_53 (kget0 rfl) (s8_refused h2) (by decide) (Nat.le_of_ble_eq_true rfl) ⟨Nat.zero_le _, Nat.zero_le _⟩ ?_
    rw [decide_eq_true h1]
    refine b_if_eq (b := true) (pc := 56) 61 (by decide) dX8_swap_56 (fun h9 => by cases h9) (fun _ => ?_)
    refine n_iconst_0 (pc := 59) dX8_swap_59 ?_
    refine p_ireturn (pc := 60) false rfl rfl rfl dX8_swap_60 (Nat.zero_le _) (Nat.zero_le _) (Or.inl rfl) ?_
    rw [e]
    exact ⟨rfl, _, h.ii0 _, rfl, rfl⟩
  have ok :
    G mX8_swap 12 (.inl false) 0 0 (tMo M b (A_swap x y w)) none 0 0 61 [some (.ref b), some (.int x), some (.int y)] [] (kset M b (ii S 0 (nI 0)))
    →
    G mX8_swap 12 (.inl false) 0 0 (tMo M b (A_swap x y w)) none 0 0 53 [some (.ref b), some (.int x), some (.int y)] [.int (nI 0), .ref b] (kset M b S)
    := by
    intro hb9
    refine r_callV1i (pc := 53) lk_X8_167 dX8_swap_53 (kget0 rfl) (s8_refused (by decide)) (by decide) (Nat.le_of_ble_eq_true rfl) ⟨Nat.zero_le _, Nat.zero_le _⟩ ?_
    refine b_if_eq (b := false) (pc := 56) 61 (by decide) dX8_swap_56 (fun _ => hb9) (fun h9 => by cases h9)
  have ea : A_swap x y w = if inR x (zt (wz w)) && inR y (zt (wz w)) then (if nm x = nm y then rN 2 w else if zH (wz w) (nm x) = 0 ∧ zH (wz w) (nm y) = 0 then rO (iI (sgZ (wz w) (nm x) (nm y))) (wAct w (swapZ (wz w) (nm x) (nm y))) else rN 3 w) else rN 1 w := rfl
  refine r_aload0 (pc := 0) dX8_swap_0 ?_
  refine r_aload0 (pc := 1) dX8_swap_1 ?_
  refine r_getf (pc := 2) fl_X8_13 dX8_swap_2 (kget0 rfl) rfl ?_
  refine r_iload1 (pc := 5) dX8_swap_5 ?_
  refine r_callS2i (pc := 6) lk_X8_152 dX8_swap_6 (s8_isPlace hM hI hZ) (by decide) (Nat.le_of_ble_eq_true rfl) ⟨Nat.zero_le _, Nat.zero_le _⟩ ?_
  refine b_if_eq (pc := 9) 23 (by decide) dX8_swap_9 (fun h1 => ?_) (fun h1 => ?_)
  · refine n_iconst_1 (pc := 23) dX8_swap_23 ?_
    refine r_goto (pc := 24) 53 (by decide) dX8_swap_24 ?_
    exact no 1 (by omega) (by omega) (by rw [ea, h1]; rfl)
  · refine r_aload0 (pc := 12) dX8_swap_12 ?_
    refine r_getf (pc := 13) fl_X8_13 dX8_swap_13 (kget0 rfl) rfl ?_
    refine r_iload2 (pc := 16) dX8_swap_16 ?_
    refine r_callS2i (pc := 17) lk_X8_152 dX8_swap_17 (s8_isPlace hM hI hZ) (by decide) (Nat.le_of_ble_eq_true rfl) ⟨Nat.zero_le _, Nat.zero_le _⟩ ?_
    refine b_if_ne (pc := 20) 27 (by decide) dX8_swap_20 (fun h2 => ?_) (fun h2 => ?_)
    · rw [h1, h2] at ea
      have ea : A_swap x y w = if nm x = nm y then rN 2 w else if zH (wz w) (nm x) = 0 ∧ zH (wz w) (nm y) = 0 then rO (iI (sgZ (wz w) (nm x) (nm y))) (wAct w (swapZ (wz w) (nm x) (nm y))) else rN 3 w := ea
      obtain ⟨c1, c2⟩ := inR_nm h1 (by omega)
      obtain ⟨e1, e2⟩ := inR_nm h2 (by omega)
      generalize nm x = n at *
      generalize nm y = m at *
      subst c2 e2
      refine r_iload1 (pc := 27) dX8_swap_27 ?_
      refine r_iload2 (pc := 28) dX8_swap_28 ?_
      refine n_icmp_ne (pc := 29) 36 (by decide) dX8_swap_29 (by omega) (by omega) (fun h3 => ?_) (fun h3 => ?_)
      · rw [if_neg h3] at ea
        refine r_aload0 (pc := 36) dX8_swap_36 ?_
        refine r_getf (pc := 37) fl_X8_13 dX8_swap_37 (kget0 rfl) rfl ?_
        refine r_iload1 (pc := 40) dX8_swap_40 ?_
        refine r_iload2 (pc := 41) dX8_swap_41 ?_
        refine r_callS3i (pc := 42) lk_X8_182 dX8_swap_42 (s8_canSwap hM hI hZ (by omega) (by omega)) (by decide) (Nat.le_of_ble_eq_true rfl) ⟨Nat.zero_le _, Nat.zero_le _⟩ ?_
        have ec : canS (wz w) n m = decide (zH (wz w) n = 0 ∧ zH (wz w) m = 0) := by
          unfold canS
          rw [decide_eq_true c1, decide_eq_true e1, decide_eq_true h3]
          by_cases q1 : zH (wz w) n = 0 <;> by_cases q2 : zH (wz w) m = 0 <;> simp [q1, q2]
        rw [ec]
        refine b_if_eq (pc := 45) 52 (by decide) dX8_swap_45 (fun h4 => ?_) (fun h4 => ?_)
        · refine n_iconst_3 (pc := 52) dX8_swap_52 ?_
          exact no 3 (by omega) (by omega) (by rw [ea, if_neg (of_decide_eq_false h4)])
        · rw [if_pos (of_decide_eq_true h4)] at ea
          refine n_iconst_0 (pc := 48) dX8_swap_48 ?_
          refine r_goto (pc := 49) 53 (by decide) dX8_swap_49 ?_
          refine ok ?_
          refine r_aload0 (pc := 61) dX8_swap_61 ?_
          refine r_callV0w (pc := 62) lk_X8_258 dX8_swap_62 (kget0 rfl) (s8_remember (S := ii S 0 (nI 0)) (h.ii0 _) hW)  (by decide) (Nat.le_of_ble_eq_true rfl) ⟨Nat.zero_le _, Nat.zero_le _⟩ (fun M9 h9 => ?_)
          obtain ⟨S1, h1, k1, rfl⟩ := h9
          refine r_aload0 (pc := 65) dX8_swap_65 ?_
          refine r_getf (pc := 66) fl_X8_13 dX8_swap_66 (kget0 rfl) rfl ?_
          refine r_aload0 (pc := 69) dX8_swap_69 ?_
          refine r_getf (pc := 70) fl_X8_13 dX8_swap_70 (kget0 rfl) rfl ?_
          refine r_iload1 (pc := 73) dX8_swap_73 ?_
          refine r_callS2i (pc := 74) lk_X8_123 dX8_swap_74 (s8_firstOf (kget rfl) h1.r hZ c1) (by decide) (Nat.le_of_ble_eq_true rfl) ⟨Nat.zero_le _, Nat.zero_le _⟩ ?_
          refine r_aload0 (pc := 77) dX8_swap_77 ?_
          refine r_getf (pc := 78) fl_X8_13 dX8_swap_78 (kget0 rfl) rfl ?_
          refine r_iload2 (pc := 81) dX8_swap_81 ?_
          refine r_callS2i (pc := 82) lk_X8_123 dX8_swap_82 (s8_firstOf (kget rfl) h1.r hZ e1) (by decide) (Nat.le_of_ble_eq_true rfl) ⟨Nat.zero_le _, Nat.zero_le _⟩ ?_
          refine r_callS3x (pc := 85) lk_X8_129 dX8_swap_85 (hK1.to (M := M) (b := b) (S := S1) (s8_swapOn h1.r hZ c1 e1 h3))  (by decide) (Nat.le_of_ble_eq_true rfl) ⟨Nat.zero_le _, Nat.zero_le _⟩ (fun M9 h9 => ?_)
          obtain ⟨f', hI2, rfl⟩ := h9
          refine p_ireturn (pc := 88) false rfl rfl rfl dX8_swap_88 (Nat.zero_le _) (Nat.zero_le _) (Or.inl rfl) ?_
          rw [ea]
          exact ⟨rfl, _, h1.now hI2, k1, rfl⟩
      · refine n_iconst_2 (pc := 32) dX8_swap_32 ?_
        refine r_goto (pc := 33) 53 (by decide) dX8_swap_33 ?_
        exact no 2 (by omega) (by omega) (by rw [ea, if_pos h3])
    · refine n_iconst_1 (pc := 23) dX8_swap_23 ?_
      refine r_goto (pc := 24) 53 (by decide) dX8_swap_24 ?_
      exact no 1 (by omega) (by omega) (by rw [ea, h1, h2]; rfl)
set_option maxRecDepth 20000 in
theorem s8_flip (h : MODEL S w) (hW : WOK w) {x y : Int32} : SpecP mX8_flip 12 0 0 [.ref b, .int x, .int y] (kset M b S) (tMo M b (A_flip x y w)) := by
  have hZ := hW.z
  have hd := hZ.dims
  have hI := h.r
  have hk14 := hW.2.1.1
  have hn120 := hW.2.2.2.1
  have ha := h.a
  have hn := h.n
  have hM : kset M b S (b + 2) = some (cI 563 (S.2 1)) := kget rfl
  refine Spec_of [some (.ref b), some (.int x), some (.int y)] (by decide) (Nat.le_of_ble_eq_true rfl) rfl ?_
  have no : ∀ k, 0 < k → k < 10 → A_flip x y w = rN k w →
    G mX8_flip 12 (.inl false) 0 0 (tMo M b (A_flip x y w)) none 0 0 34 [some (.ref b), some (.int x), some (.int y)] [.int (nI k), .ref b] (kset M b S)
    := by
    intro k h1 h2 e
    refine r_callV1i (pc := 34) lk_X8_167 dX8_flip_34 (kget0 rfl) (s8_refused h2) (by decide) (Nat.le_of_ble_eq_true rfl) ⟨Nat.zero_le _, Nat.zero_le _⟩ ?_
    rw [decide_eq_true h1]
    refine b_if_eq (b := true) (pc := 37) 42 (by decide) dX8_flip_37 (fun h9 => by cases h9) (fun _ => ?_)
    refine n_iconst_0 (pc := 40) dX8_flip_40 ?_
    refine p_ireturn (pc := 41) false rfl rfl rfl dX8_flip_41 (Nat.zero_le _) (Nat.zero_le _) (Or.inl rfl) ?_
    rw [e]
    exact ⟨rfl, _, h.ii0 _, rfl, rfl⟩
  have ok :
    G mX8_flip 12 (.inl false) 0 0 (tMo M b (A_flip x y w)) none 0 0 42 [some (.ref b), some (.int x), some (.int y)] [] (kset M b (ii S 0 (nI 0)))
    →
    G mX8_flip 12 (.inl false) 0 0 (tMo M b (A_flip x y w)) none 0 0 34 [some (.ref b), some (.int x), some (.int y)] [.int (nI 0), .ref b] (kset M b S)
    := by
    intro hb9
    refine r_callV1i (pc := 34) lk_X8_167 dX8_flip_34 (kget0 rfl) (s8_refused (by decide)) (by decide) (Nat.le_of_ble_eq_true rfl) ⟨Nat.zero_le _, Nat.zero_le _⟩ ?_
    refine b_if_eq (b := false) (pc := 37) 42 (by decide) dX8_flip_37 (fun _ => hb9) (fun h9 => by cases h9)
  have ea : A_flip x y w = if inQ (wz w) x y then (match canF (wz w) (sqn (wz w) x y) with
    | some p => rO (iI (fgZ (wz w) p.1 p.2)) (wAct w (flipZ (wz w) p.1 p.2))
    | none => rN 2 w) else rN 1 w := rfl
  refine r_aload0 (pc := 0) dX8_flip_0 ?_
  refine r_aload0 (pc := 1) dX8_flip_1 ?_
  refine r_getf (pc := 2) fl_X8_13 dX8_flip_2 (kget0 rfl) rfl ?_
  refine r_iload1 (pc := 5) dX8_flip_5 ?_
  refine r_iload2 (pc := 6) dX8_flip_6 ?_
  refine r_callS3i (pc := 7) lk_X8_158 dX8_flip_7 (s8_isSquare hM hI hZ) (by decide) (Nat.le_of_ble_eq_true rfl) ⟨Nat.zero_le _, Nat.zero_le _⟩ ?_
  refine b_if_ne (pc := 10) 17 (by decide) dX8_flip_10 (fun h1 => ?_) (fun h1 => ?_)
  · have hq : inQ (wz w) x y = true := h1
    rw [hq] at ea
    have ea : A_flip x y w = match canF (wz w) (sqn (wz w) x y) with
      | some p => rO (iI (fgZ (wz w) p.1 p.2)) (wAct w (flipZ (wz w) p.1 p.2))
      | none => rN 2 w := ea
    rw [Bool.and_eq_true] at h1
    obtain ⟨c1, c2⟩ := inR_nm h1.1 (by omega)
    obtain ⟨e1, e2⟩ := inR_nm h1.2 (by omega)
    unfold sqn at ea
    generalize nm x = n at *
    generalize nm y = m at *
    subst c2 e2
    refine r_aload0 (pc := 17) dX8_flip_17 ?_
    refine r_getf (pc := 18) fl_X8_13 dX8_flip_18 (kget0 rfl) rfl ?_
    refine r_iload1 (pc := 21) dX8_flip_21 ?_
    refine r_iload2 (pc := 22) dX8_flip_22 ?_
    refine r_callS3i (pc := 23) lk_X8_185 dX8_flip_23 (s8_canFlip hM hI hZ (by omega) (by omega)) (by decide) (Nat.le_of_ble_eq_true rfl) ⟨Nat.zero_le _, Nat.zero_le _⟩ ?_
    rw [show flA (wz w) n m = canF (wz w) (m * zc (wz w) + n) from if_pos ⟨c1, e1⟩]
    cases hq9 : canF (wz w) (m * zc (wz w) + n) with
    | none =>
      rw [hq9] at ea
      refine b_if_eq (b := false) (pc := 26) 33 (by decide) dX8_flip_26 (fun _ => ?_) (fun h9 => by cases h9)
      refine n_iconst_2 (pc := 33) dX8_flip_33 ?_
      exact no 2 (by omega) (by omega) ea
    | some p =>
      obtain ⟨k, l⟩ := p
      rw [hq9] at ea
      have ea : A_flip (nI n) (nI m) w = rO (iI (fgZ (wz w) k l)) (wAct w (flipZ (wz w) k l)) := ea
      obtain ⟨f1, f2, f3, -⟩ := canF_ex hZ hq9
      refine b_if_eq (b := true) (pc := 26) 33 (by decide) dX8_flip_26 (fun h9 => by cases h9) (fun _ => ?_)
      refine n_iconst_0 (pc := 29) dX8_flip_29 ?_
      refine r_goto (pc := 30) 34 (by decide) dX8_flip_30 ?_
      refine ok ?_
      refine r_aload0 (pc := 42) dX8_flip_42 ?_
      refine r_callV0w (pc := 43) lk_X8_258 dX8_flip_43 (kget0 rfl) (s8_remember (S := ii S 0 (nI 0)) (h.ii0 _) hW)  (by decide) (Nat.le_of_ble_eq_true rfl) ⟨Nat.zero_le _, Nat.zero_le _⟩ (fun M9 h9 => ?_)
      obtain ⟨S1, h1, k1, rfl⟩ := h9
      refine r_aload0 (pc := 46) dX8_flip_46 ?_
      refine r_getf (pc := 47) fl_X8_13 dX8_flip_47 (kget0 rfl) rfl ?_
      refine r_aload0 (pc := 50) dX8_flip_50 ?_
      refine r_getf (pc := 51) fl_X8_13 dX8_flip_51 (kget0 rfl) rfl ?_
      refine r_callS1i (pc := 54) lk_X8_40 dX8_flip_54 (s8_wide (kget rfl) h1.r) (by decide) (Nat.le_of_ble_eq_true rfl) ⟨Nat.zero_le _, Nat.zero_le _⟩ ?_
      refine r_iload2 (pc := 57) dX8_flip_57 ?_
      first | refine n_imul (pc := 58) dX8_flip_58 ?_ | refine z_imul (pc := 58) dX8_flip_58 ?_ | refine r_imul (pc := 58) dX8_flip_58 ?_
      refine r_iload1 (pc := 59) dX8_flip_59 ?_
      first | refine n_iadd (pc := 60) dX8_flip_60 ?_ | refine z_iadd (pc := 60) dX8_flip_60 ?_ | refine r_iadd (pc := 60) dX8_flip_60 ?_
      rw [show zc (wz (wRem w)) * m + n = zF (wz w) k by rw [f2, Nat.mul_comm]; rfl]
      refine r_callS2x (pc := 61) lk_X8_132 dX8_flip_61 (hK1.to (M := M) (b := b) (S := S1) (s8_flipOn h1.r hZ f1 f3))  (by decide) (Nat.le_of_ble_eq_true rfl) ⟨Nat.zero_le _, Nat.zero_le _⟩ (fun M9 h9 => ?_)
      obtain ⟨f', hI2, rfl⟩ := h9
      refine p_ireturn (pc := 64) false rfl rfl rfl dX8_flip_64 (Nat.zero_le _) (Nat.zero_le _) (Or.inl rfl) ?_
      rw [ea]
      exact ⟨rfl, _, h1.now hI2, k1, rfl⟩
  · refine n_iconst_1 (pc := 13) dX8_flip_13 ?_
    refine r_goto (pc := 14) 34 (by decide) dX8_flip_14 ?_
    have hq : inQ (wz w) x y = false := h1
    exact no 1 (by omega) (by omega) (by rw [ea, hq]; rfl)
set_option maxRecDepth 20000 in
theorem s8_hold (h : MODEL S w) (hW : WOK w) {x : Int32} {v : Bool} : SpecP mX8_hold 12 0 0 [.ref b, .int x, .int (bI v)] (kset M b S) (tMo M b (A_hold x v w)) := by
  have hZ := hW.z
  have hd := hZ.dims
  have hI := h.r
  have hk14 := hW.2.1.1
  have hn120 := hW.2.2.2.1
  have ha := h.a
  have hn := h.n
  have hM : kset M b S (b + 2) = some (cI 563 (S.2 1)) := kget rfl
  refine Spec_of [some (.ref b), some (.int x), some (.int (bI v))] (by decide) (Nat.le_of_ble_eq_true rfl) rfl ?_
  have no : ∀ k, 0 < k → k < 10 → A_hold x v w = rN k w →
    G mX8_hold 12 (.inl false) 0 0 (tMo M b (A_hold x v w)) none 0 0 17 [some (.ref b), some (.int x), some (.int (bI v))] [.int (nI k), .ref b] (kset M b S)
    := by
    intro k h1 h2 e
    refine r_callV1i (pc := 17) lk_X8_167 dX8_hold_17 (kget0 rfl) (s8_refused h2) (by decide) (Nat.le_of_ble_eq_true rfl) ⟨Nat.zero_le _, Nat.zero_le _⟩ ?_
    rw [decide_eq_true h1]
    refine b_if_eq (b := true) (pc := 20) 25 (by decide) dX8_hold_20 (fun h9 => by cases h9) (fun _ => ?_)
    refine n_iconst_0 (pc := 23) dX8_hold_23 ?_
    refine p_ireturn (pc := 24) false rfl rfl rfl dX8_hold_24 (Nat.zero_le _) (Nat.zero_le _) (Or.inl rfl) ?_
    rw [e]
    exact ⟨rfl, _, h.ii0 _, rfl, rfl⟩
  have ok :
    G mX8_hold 12 (.inl false) 0 0 (tMo M b (A_hold x v w)) none 0 0 25 [some (.ref b), some (.int x), some (.int (bI v))] [] (kset M b (ii S 0 (nI 0)))
    →
    G mX8_hold 12 (.inl false) 0 0 (tMo M b (A_hold x v w)) none 0 0 17 [some (.ref b), some (.int x), some (.int (bI v))] [.int (nI 0), .ref b] (kset M b S)
    := by
    intro hb9
    refine r_callV1i (pc := 17) lk_X8_167 dX8_hold_17 (kget0 rfl) (s8_refused (by decide)) (by decide) (Nat.le_of_ble_eq_true rfl) ⟨Nat.zero_le _, Nat.zero_le _⟩ ?_
    refine b_if_eq (b := false) (pc := 20) 25 (by decide) dX8_hold_20 (fun _ => hb9) (fun h9 => by cases h9)
  have ea : A_hold x v w = if inR x (zt (wz w)) then rO (nI (zM (zH (holdZ (wz w) (nm x) (if v then 1 else 0))) (zt (wz w)))) (wAct w (holdZ (wz w) (nm x) (if v then 1 else 0))) else rN 1 w := rfl
  refine r_aload0 (pc := 0) dX8_hold_0 ?_
  refine r_aload0 (pc := 1) dX8_hold_1 ?_
  refine r_getf (pc := 2) fl_X8_13 dX8_hold_2 (kget0 rfl) rfl ?_
  refine r_iload1 (pc := 5) dX8_hold_5 ?_
  refine r_callS2i (pc := 6) lk_X8_152 dX8_hold_6 (s8_isPlace hM hI hZ) (by decide) (Nat.le_of_ble_eq_true rfl) ⟨Nat.zero_le _, Nat.zero_le _⟩ ?_
  refine b_if_eq (pc := 9) 16 (by decide) dX8_hold_9 (fun h1 => ?_) (fun h1 => ?_)
  · refine n_iconst_1 (pc := 16) dX8_hold_16 ?_
    exact no 1 (by omega) (by omega) (by rw [ea, h1]; rfl)
  · rw [h1] at ea
    have ea : A_hold x v w = rO (nI (zM (zH (holdZ (wz w) (nm x) (if v then 1 else 0))) (zt (wz w)))) (wAct w (holdZ (wz w) (nm x) (if v then 1 else 0))) := ea
    obtain ⟨c1, c2⟩ := inR_nm h1 (by omega)
    generalize nm x = n at *
    subst c2
    refine n_iconst_0 (pc := 12) dX8_hold_12 ?_
    refine r_goto (pc := 13) 17 (by decide) dX8_hold_13 ?_
    refine ok ?_
    refine r_aload0 (pc := 25) dX8_hold_25 ?_
    refine r_callV0w (pc := 26) lk_X8_258 dX8_hold_26 (kget0 rfl) (s8_remember (S := ii S 0 (nI 0)) (h.ii0 _) hW)  (by decide) (Nat.le_of_ble_eq_true rfl) ⟨Nat.zero_le _, Nat.zero_le _⟩ (fun M9 h9 => ?_)
    obtain ⟨S1, h1, k1, rfl⟩ := h9
    refine r_aload0 (pc := 29) dX8_hold_29 ?_
    refine r_getf (pc := 30) fl_X8_13 dX8_hold_30 (kget0 rfl) rfl ?_
    refine r_iload1 (pc := 33) dX8_hold_33 ?_
    refine r_iload2 (pc := 34) dX8_hold_34 ?_
    refine r_callS3x (pc := 35) lk_X8_218 dX8_hold_35 (hK1.to (M := M) (b := b) (S := S1) (s8_holdOn (v := v) h1.r hZ c1))  (by decide) (Nat.le_of_ble_eq_true rfl) ⟨Nat.zero_le _, Nat.zero_le _⟩ (fun M9 h9 => ?_)
    obtain ⟨f', hI2, rfl⟩ := h9
    refine p_ireturn (pc := 38) false rfl rfl rfl dX8_hold_38 (Nat.zero_le _) (Nat.zero_le _) (Or.inl rfl) ?_
    rw [ea]
    exact ⟨rfl, _, h1.now hI2, k1, rfl⟩
set_option maxRecDepth 20000 in
theorem s8_lay (h : MODEL S w) (hW : WOK w) : SpecP mX8_lay 12 0 0 [.ref b] (kset M b S) (tMo M b (A_lay w)) := by
  have hZ := hW.z
  have hd := hZ.dims
  have hI := h.r
  have hk14 := hW.2.1.1
  have hn120 := hW.2.2.2.1
  have ha := h.a
  have hn := h.n
  have hM : kset M b S (b + 2) = some (cI 563 (S.2 1)) := kget rfl
  refine Spec_of [some (.ref b)] (by decide) (Nat.le_of_ble_eq_true rfl) rfl ?_
  refine r_aload0 (pc := 0) dX8_lay_0 ?_
  refine n_iconst_0 (pc := 1) dX8_lay_1 ?_
  refine r_putfI (pc := 2) fl_X8_36 dX8_lay_2 (kget0 rfl) (Nat.le_of_ble_eq_true rfl) ?_
  refine G_M bii_X8_0 ?_
  refine r_aload0 (pc := 5) dX8_lay_5 ?_
  refine r_callV0w (pc := 6) lk_X8_258 dX8_lay_6 (kget0 rfl) (s8_remember (S := ii S 0 (nI 0)) (h.ii0 _) hW)  (by decide) (Nat.le_of_ble_eq_true rfl) ⟨Nat.zero_le _, Nat.zero_le _⟩ (fun M9 h9 => ?_)
  obtain ⟨S1, h1, k1, rfl⟩ := h9
  refine r_aload0 (pc := 9) dX8_lay_9 ?_
  refine r_aload0 (pc := 10) dX8_lay_10 ?_
  refine r_getf (pc := 11) fl_X8_13 dX8_lay_11 (kget0 rfl) rfl ?_
  refine r_callV1x (pc := 14) lk_X8_188 dX8_lay_14 (kget0 rfl) (s8_layAll (M := M) (b := b) (S := S1) hK1 h1.r hZ hW.t)  (by decide) (Nat.le_of_ble_eq_true rfl) ⟨Nat.zero_le _, Nat.zero_le _⟩ (fun M9 h9 => ?_)
  obtain ⟨L, f', hI2, rfl⟩ := h9
  exact p_ireturn (pc := 17) false rfl rfl rfl dX8_lay_17 (Nat.zero_le _) (Nat.zero_le _) (Or.inl rfl) ⟨rfl, ia (ia S1 6 L) 1 f', (h1.ks ((KS.rf S1).i6 L)).now hI2, k1, rfl⟩
set_option maxRecDepth 20000 in
theorem s8_improve (h : MODEL S w) (hW : WOK w) {x : Int32} : SpecP mX8_improve 12 0 0 [.ref b, .int x] (kset M b S) (tMo M b (A_improve x w)) := by
  have hZ := hW.z
  have hd := hZ.dims
  have hI := h.r
  have hk14 := hW.2.1.1
  have hn120 := hW.2.2.2.1
  have ha := h.a
  have hn := h.n
  have hM : kset M b S (b + 2) = some (cI 563 (S.2 1)) := kget rfl
  refine Spec_of [some (.ref b), some (.int x)] (by decide) (Nat.le_of_ble_eq_true rfl) rfl ?_
  have no : ∀ k, 0 < k → k < 10 → A_improve x w = rN k w →
    G mX8_improve 12 (.inl false) 0 0 (tMo M b (A_improve x w)) none 0 0 18 [some (.ref b), some (.int x)] [.int (nI k), .ref b] (kset M b S)
    := by
    intro k h1 h2 e
    refine r_callV1i (pc := 18) lk_X8_167 dX8_improve_18 (kget0 rfl) (s8_refused h2) (by decide) (Nat.le_of_ble_eq_true rfl) ⟨Nat.zero_le _, Nat.zero_le _⟩ ?_
    rw [decide_eq_true h1]
    refine b_if_eq (b := true) (pc := 21) 26 (by decide) dX8_improve_21 (fun h9 => by cases h9) (fun _ => ?_)
    refine n_iconst_0 (pc := 24) dX8_improve_24 ?_
    refine p_ireturn (pc := 25) false rfl rfl rfl dX8_improve_25 (Nat.zero_le _) (Nat.zero_le _) (Or.inl rfl) ?_
    rw [e]
    exact ⟨rfl, _, h.ii0 _, rfl, rfl⟩
  have ok :
    G mX8_improve 12 (.inl false) 0 0 (tMo M b (A_improve x w)) none 0 0 26 [some (.ref b), some (.int x)] [] (kset M b (ii S 0 (nI 0)))
    →
    G mX8_improve 12 (.inl false) 0 0 (tMo M b (A_improve x w)) none 0 0 18 [some (.ref b), some (.int x)] [.int (nI 0), .ref b] (kset M b S)
    := by
    intro hb9
    refine r_callV1i (pc := 18) lk_X8_167 dX8_improve_18 (kget0 rfl) (s8_refused (by decide)) (by decide) (Nat.le_of_ble_eq_true rfl) ⟨Nat.zero_le _, Nat.zero_le _⟩ ?_
    refine b_if_eq (b := false) (pc := 21) 26 (by decide) dX8_improve_21 (fun _ => hb9) (fun h9 => by cases h9)
  have ea : A_improve x w = if inB x 1 20 then rO (iI (erAll (wz w) - erAll (impZ (nm x) (wz w)))) (wAct w (impZ (nm x) (wz w))) else rN 1 w := rfl
  refine r_aload0 (pc := 0) dX8_improve_0 ?_
  refine r_iload1 (pc := 1) dX8_improve_1 ?_
  refine r_i2l (pc := 2) dX8_improve_2 ?_
  refine r_lconst_1 (pc := 3) dX8_improve_3 ?_
  refine r_ldc2 (v := (20)) (pc := 4) (tG 1365 (by decide +kernel) (by decide +kernel)) dX8_improve_4 ?_
  refine r_callS3i (pc := 7) lk_X8_50 dX8_improve_7 (s8_inAB (a := 1) (b := 20) (by decide) (by decide)) (by decide) (Nat.le_of_ble_eq_true rfl) ⟨Nat.zero_le _, Nat.zero_le _⟩ ?_
  refine b_if_eq (pc := 10) 17 (by decide) dX8_improve_10 (fun h1 => ?_) (fun h1 => ?_)
  · refine n_iconst_1 (pc := 17) dX8_improve_17 ?_
    exact no 1 (by omega) (by omega) (by rw [ea, h1]; rfl)
  · rw [h1] at ea
    have ea : A_improve x w = rO (iI (erAll (wz w) - erAll (impZ (nm x) (wz w)))) (wAct w (impZ (nm x) (wz w))) := ea
    obtain ⟨c1, c2, c3⟩ := inB_ex h1 (by omega)
    generalize nm x = n at *
    subst c3
    refine n_iconst_0 (pc := 13) dX8_improve_13 ?_
    refine r_goto (pc := 14) 18 (by decide) dX8_improve_14 ?_
    refine ok ?_
    refine r_aload0 (pc := 26) dX8_improve_26 ?_
    refine r_callV0w (pc := 27) lk_X8_258 dX8_improve_27 (kget0 rfl) (s8_remember (S := ii S 0 (nI 0)) (h.ii0 _) hW)  (by decide) (Nat.le_of_ble_eq_true rfl) ⟨Nat.zero_le _, Nat.zero_le _⟩ (fun M9 h9 => ?_)
    obtain ⟨S1, h1, k1, rfl⟩ := h9
    refine r_aload0 (pc := 30) dX8_improve_30 ?_
    refine r_aload0 (pc := 31) dX8_improve_31 ?_
    refine r_getf (pc := 32) fl_X8_13 dX8_improve_32 (kget0 rfl) rfl ?_
    refine r_iload1 (pc := 35) dX8_improve_35 ?_
    refine r_callV2x (pc := 36) lk_X8_225 dX8_improve_36 (kget0 rfl) (s8_improveOn (M := M) (b := b) (S := S1) hK1 h1.r hZ (m := n) (by omega))  (by decide) (Nat.le_of_ble_eq_true rfl) ⟨Nat.zero_le _, Nat.zero_le _⟩ (fun M9 h9 => ?_)
    obtain ⟨v', w', f', hI2, rfl⟩ := h9
    refine p_ireturn (pc := 39) false rfl rfl rfl dX8_improve_39 (Nat.zero_le _) (Nat.zero_le _) (Or.inl rfl) ?_
    rw [ea]
    exact ⟨rfl, imS S1 1 v' w' (nI (impN n (wz w))) f', (h1.ks ((((KS.rf S1).ii (i := 3) (by omega) v').ii (i := 4) (by omega) w').ii (i := 5) (by omega) (nI (impN n (wz w))))).now hI2, k1, rfl⟩
set_option maxRecDepth 20000 in
theorem s8_undo (h : MODEL S w) (hW : WOK w) : SpecP mX8_undo 12 0 0 [.ref b] (kset M b S) (tMo M b (A_undo w)) := by
  have hZ := hW.z
  have hd := hZ.dims
  have hI := h.r
  have hk14 := hW.2.1.1
  have hn120 := hW.2.2.2.1
  have ha := h.a
  have hn := h.n
  have hM : kset M b S (b + 2) = some (cI 563 (S.2 1)) := kget rfl
  refine Spec_of [some (.ref b)] (by decide) (Nat.le_of_ble_eq_true rfl) rfl ?_
  have no : ∀ k, 0 < k → k < 10 → A_undo w = rN k w →
    G mX8_undo 12 (.inl false) 0 0 (tMo M b (A_undo w)) none 0 0 13 [some (.ref b)] [.int (nI k), .ref b] (kset M b S)
    := by
    intro k h1 h2 e
    refine r_callV1i (pc := 13) lk_X8_167 dX8_undo_13 (kget0 rfl) (s8_refused h2) (by decide) (Nat.le_of_ble_eq_true rfl) ⟨Nat.zero_le _, Nat.zero_le _⟩ ?_
    rw [decide_eq_true h1]
    refine b_if_eq (b := true) (pc := 16) 21 (by decide) dX8_undo_16 (fun h9 => by cases h9) (fun _ => ?_)
    refine n_iconst_0 (pc := 19) dX8_undo_19 ?_
    refine p_ireturn (pc := 20) false rfl rfl rfl dX8_undo_20 (Nat.zero_le _) (Nat.zero_le _) (Or.inl rfl) ?_
    rw [e]
    exact ⟨rfl, _, h.ii0 _, rfl, rfl⟩
  have ok :
    G mX8_undo 12 (.inl false) 0 0 (tMo M b (A_undo w)) none 0 0 21 [some (.ref b)] [] (kset M b (ii S 0 (nI 0)))
    →
    G mX8_undo 12 (.inl false) 0 0 (tMo M b (A_undo w)) none 0 0 13 [some (.ref b)] [.int (nI 0), .ref b] (kset M b S)
    := by
    intro hb9
    refine r_callV1i (pc := 13) lk_X8_167 dX8_undo_13 (kget0 rfl) (s8_refused (by decide)) (by decide) (Nat.le_of_ble_eq_true rfl) ⟨Nat.zero_le _, Nat.zero_le _⟩ ?_
    refine b_if_eq (b := false) (pc := 16) 21 (by decide) dX8_undo_16 (fun _ => hb9) (fun h9 => by cases h9)
  have ea : A_undo w = if wk w = 0 then rN 1 w else rO (nI (wk w - 1)) (wg w (wk w - 1), (wk w - 1, wg w), w.2.2) := rfl
  refine r_aload0 (pc := 0) dX8_undo_0 ?_
  refine r_aload0 (pc := 1) dX8_undo_1 ?_
  refine r_getf (pc := 2) fl_X8_238 dX8_undo_2 (kget0 rfl) rfl ?_
  rw [ha]
  refine n_if_ne (pc := 5) 12 (by decide) dX8_undo_5 (by omega) (fun h1 => ?_) (fun h1 => ?_)
  · rw [if_neg h1] at ea
    refine n_iconst_0 (pc := 12) dX8_undo_12 ?_
    refine ok ?_
    have ha0 : (ii S 0 (nI 0)).1 2 = nI (wk w) := ha
    refine r_aload0 (pc := 21) dX8_undo_21 ?_
    refine r_dup (pc := 22) dX8_undo_22 rfl ?_
    refine r_getf (pc := 23) fl_X8_238 dX8_undo_23 (kget0 rfl) rfl ?_
    rw [ha0]
    refine n_iconst_1 (pc := 26) dX8_undo_26 ?_
    refine n_isub (pc := 27) dX8_undo_27 (by omega) ?_
    refine r_putfI (pc := 28) fl_X8_238 dX8_undo_28 (kget0 rfl) (Nat.le_of_ble_eq_true rfl) ?_
    refine G_M bii_X8_6 ?_
    have ha1 : (ii (ii S 0 (nI 0)) 2 (nI (wk w - 1))).1 2 = nI (wk w - 1) := rfl
    refine r_aload0 (pc := 31) dX8_undo_31 ?_
    refine r_getf (pc := 32) fl_X8_19 dX8_undo_32 (kget0 rfl) rfl ?_
    refine n_sipush (pc := 35) 563 (by decide) dX8_undo_35 ?_
    refine r_aload0 (pc := 38) dX8_undo_38 ?_
    refine r_getf (pc := 39) fl_X8_238 dX8_undo_39 (kget0 rfl) rfl ?_
    rw [ha1]
    first | refine n_imul (pc := 42) dX8_undo_42 ?_ | refine z_imul (pc := 42) dX8_undo_42 ?_ | refine r_imul (pc := 42) dX8_undo_42 ?_
    refine r_aload0 (pc := 43) dX8_undo_43 ?_
    refine r_getf (pc := 44) fl_X8_13 dX8_undo_44 (kget0 rfl) rfl ?_
    refine n_iconst_0 (pc := 47) dX8_undo_47 ?_
    refine r_callS4v (pc := 48) lk_X8_234 dX8_undo_48 (cp_31 (by omega)) (by decide) (Nat.le_of_ble_eq_true rfl) ⟨Nat.zero_le _, Nat.zero_le _⟩ ?_
    have ha2 : (ia (ii (ii S 0 (nI 0)) 2 (nI (wk w - 1))) 1 (cpR (S.2 3) (S.2 1) (563 * (wk w - 1)) 0 563)).1 2 = nI (wk w - 1) := rfl
    change G mX8_undo 12 (.inl false) 0 0 _ none 0 0 51 _ _ (kset M b (ia (ii (ii S 0 (nI 0)) 2 (nI (wk w - 1))) 1 (cpR (S.2 3) (S.2 1) (563 * (wk w - 1)) 0 563)))
    refine r_aload0 (pc := 51) dX8_undo_51 ?_
    refine r_getf (pc := 52) fl_X8_238 dX8_undo_52 (kget0 rfl) rfl ?_
    rw [ha2]
    refine p_ireturn (pc := 55) false rfl rfl rfl dX8_undo_55 (Nat.zero_le _) (Nat.zero_le _) (Or.inl rfl) ?_
    rw [ea]
    refine mo rfl rfl ?_
    refine ⟨InvR.cg (h.2.2.1.2 (wk w - 1) (by omega)) ((hW.2.1.2 _ (by omega)).1) (fun j hj => ?_), h.2.1, ⟨rfl, fun i hi => h.2.2.1.2 i (by have hi : i < wk w - 1 := hi; omega)⟩, h.2.2.2⟩
    have e := cpR_in (f := S.2 3) (g := S.2 1) (i0 := 563 * (wk w - 1)) (i1 := 0) (n := 563) hj
    rw [Nat.zero_add] at e
    exact e
  · refine n_iconst_1 (pc := 8) dX8_undo_8 ?_
    refine r_goto (pc := 9) 13 (by decide) dX8_undo_9 ?_
    exact no 1 (by omega) (by omega) (by rw [ea, if_pos h1])
set_option maxRecDepth 20000 in
theorem s8_save (h : MODEL S w) (hW : WOK w) {x : Int32} : SpecP mX8_save 12 0 0 [.ref b, .int x] (kset M b S) (tMo M b (A_save x w)) := by
  have hZ := hW.z
  have hd := hZ.dims
  have hI := h.r
  have hk14 := hW.2.1.1
  have hn120 := hW.2.2.2.1
  have ha := h.a
  have hn := h.n
  have hM : kset M b S (b + 2) = some (cI 563 (S.2 1)) := kget rfl
  refine Spec_of [some (.ref b), some (.int x)] (by decide) (Nat.le_of_ble_eq_true rfl) rfl ?_
  have no : ∀ k, 0 < k → k < 10 → A_save x w = rN k w →
    G mX8_save 12 (.inl false) 0 0 (tMo M b (A_save x w)) none 0 0 16 [some (.ref b), some (.int x)] [.int (nI k), .ref b] (kset M b S)
    := by
    intro k h1 h2 e
    refine r_callV1i (pc := 16) lk_X8_167 dX8_save_16 (kget0 rfl) (s8_refused h2) (by decide) (Nat.le_of_ble_eq_true rfl) ⟨Nat.zero_le _, Nat.zero_le _⟩ ?_
    rw [decide_eq_true h1]
    refine b_if_eq (b := true) (pc := 19) 24 (by decide) dX8_save_19 (fun h9 => by cases h9) (fun _ => ?_)
    refine n_iconst_0 (pc := 22) dX8_save_22 ?_
    refine p_ireturn (pc := 23) false rfl rfl rfl dX8_save_23 (Nat.zero_le _) (Nat.zero_le _) (Or.inl rfl) ?_
    rw [e]
    exact ⟨rfl, _, h.ii0 _, rfl, rfl⟩
  have ok :
    G mX8_save 12 (.inl false) 0 0 (tMo M b (A_save x w)) none 0 0 24 [some (.ref b), some (.int x)] [] (kset M b (ii S 0 (nI 0)))
    →
    G mX8_save 12 (.inl false) 0 0 (tMo M b (A_save x w)) none 0 0 16 [some (.ref b), some (.int x)] [.int (nI 0), .ref b] (kset M b S)
    := by
    intro hb9
    refine r_callV1i (pc := 16) lk_X8_167 dX8_save_16 (kget0 rfl) (s8_refused (by decide)) (by decide) (Nat.le_of_ble_eq_true rfl) ⟨Nat.zero_le _, Nat.zero_le _⟩ ?_
    refine b_if_eq (b := false) (pc := 19) 24 (by decide) dX8_save_19 (fun _ => hb9) (fun h9 => by cases h9)
  have ea : A_save x w = if inR x 2 then rO (iI (erAll (wz w))) (w.1, w.2.1, (fun i => if i = nm x then some (wz w) else wu w i), w.2.2.2) else rN 1 w := rfl
  refine r_aload0 (pc := 0) dX8_save_0 ?_
  refine r_iload1 (pc := 1) dX8_save_1 ?_
  refine r_i2l (pc := 2) dX8_save_2 ?_
  refine r_lconst_0 (pc := 3) dX8_save_3 ?_
  refine r_lconst_1 (pc := 4) dX8_save_4 ?_
  refine r_callS3i (pc := 5) lk_X8_50 dX8_save_5 (s8_inAB (a := 0) (b := 1) (by decide) (by decide)) (by decide) (Nat.le_of_ble_eq_true rfl) ⟨Nat.zero_le _, Nat.zero_le _⟩ ?_
  rw [inB_R]
  refine b_if_eq (pc := 8) 15 (by decide) dX8_save_8 (fun h1 => ?_) (fun h1 => ?_)
  · refine n_iconst_1 (pc := 15) dX8_save_15 ?_
    exact no 1 (by omega) (by omega) (by rw [ea, h1]; rfl)
  · rw [h1] at ea
    have ea : A_save x w = rO (iI (erAll (wz w))) (w.1, w.2.1, (fun i => if i = nm x then some (wz w) else wu w i), w.2.2.2) := ea
    obtain ⟨c1, c2⟩ := inR_nm h1 (by omega)
    generalize nm x = n at *
    subst c2
    refine n_iconst_0 (pc := 11) dX8_save_11 ?_
    refine r_goto (pc := 12) 16 (by decide) dX8_save_12 ?_
    refine ok ?_
    refine r_aload0 (pc := 24) dX8_save_24 ?_
    refine r_getf (pc := 25) fl_X8_13 dX8_save_25 (kget0 rfl) rfl ?_
    refine n_iconst_0 (pc := 28) dX8_save_28 ?_
    refine r_aload0 (pc := 29) dX8_save_29 ?_
    refine r_getf (pc := 30) fl_X8_22 dX8_save_30 (kget0 rfl) rfl ?_
    refine n_sipush (pc := 33) 563 (by decide) dX8_save_33 ?_
    refine r_iload1 (pc := 36) dX8_save_36 ?_
    first | refine n_imul (pc := 37) dX8_save_37 ?_ | refine z_imul (pc := 37) dX8_save_37 ?_ | refine r_imul (pc := 37) dX8_save_37 ?_
    refine r_callS4v (pc := 38) lk_X8_234 dX8_save_38 (cp_14 (by omega)) (by decide) (Nat.le_of_ble_eq_true rfl) ⟨Nat.zero_le _, Nat.zero_le _⟩ ?_
    refine r_aload0 (pc := 41) dX8_save_41 ?_
    refine r_getf (pc := 42) fl_X8_25 dX8_save_42 (kget0 rfl) rfl ?_
    refine r_iload1 (pc := 45) dX8_save_45 ?_
    refine n_iconst_1 (pc := 46) dX8_save_46 ?_
    refine n_zast (pc := 47) dX8_save_47 (kget rfl) (by omega) (by decide) ?_
    rw [nar_bo1]
    refine G_M kr5 ?_
    refine r_aload0 (pc := 48) dX8_save_48 ?_
    refine r_getf (pc := 49) fl_X8_13 dX8_save_49 (kget0 rfl) rfl ?_
    refine r_callS1i (pc := 52) lk_X8_146 dX8_save_52 (s8_wholeError (f := S.2 1) (kget rfl) hI hZ) (by decide) (Nat.le_of_ble_eq_true rfl) ⟨Nat.zero_le _, Nat.zero_le _⟩ ?_
    refine p_ireturn (pc := 55) false rfl rfl rfl dX8_save_55 (Nat.zero_le _) (Nat.zero_le _) (Or.inl rfl) ?_
    rw [ea]
    refine mo rfl rfl ?_
    refine ⟨h.1, h.2.1, h.2.2.1, fun s hs => ?_⟩
    show upd (S.2 5) n (bI true) s = bI (if s = n then some (wz w) else wu w s).isSome ∧ ∀ y, (if s = n then some (wz w) else wu w s) = some y → InvR (fun j => cpR (S.2 1) (S.2 4) 0 (563 * n) 563 (563 * s + j)) y
    by_cases e : s = n
    · subst e
      rw [upd_same, if_pos rfl]
      refine ⟨rfl, fun y hy => ?_⟩
      cases hy
      refine InvR.cg hI hZ (fun j hj => ?_)
      rw [cpR_in hj, Nat.zero_add]
    · rw [upd_ne e, if_neg e]
      obtain ⟨q1, q2⟩ := h.2.2.2 s hs
      refine ⟨q1, fun y hy => InvR.cg (q2 y hy) ((hW.2.2.1 s y hy).1) (fun j hj => ?_)⟩
      rw [cpR_out (by omega)]
set_option maxRecDepth 20000 in
theorem s8_restore (h : MODEL S w) (hW : WOK w) {x : Int32} : SpecP mX8_restore 12 0 0 [.ref b, .int x] (kset M b S) (tMo M b (A_restore x w)) := by
  have hZ := hW.z
  have hd := hZ.dims
  have hI := h.r
  have hk14 := hW.2.1.1
  have hn120 := hW.2.2.2.1
  have ha := h.a
  have hn := h.n
  have hM : kset M b S (b + 2) = some (cI 563 (S.2 1)) := kget rfl
  refine Spec_of [some (.ref b), some (.int x)] (by decide) (Nat.le_of_ble_eq_true rfl) rfl ?_
  have no : ∀ k, 0 < k → k < 10 → A_restore x w = rN k w →
    G mX8_restore 12 (.inl false) 0 0 (tMo M b (A_restore x w)) none 0 0 29 [some (.ref b), some (.int x)] [.int (nI k), .ref b] (kset M b S)
    := by
    intro k h1 h2 e
    refine r_callV1i (pc := 29) lk_X8_167 dX8_restore_29 (kget0 rfl) (s8_refused h2) (by decide) (Nat.le_of_ble_eq_true rfl) ⟨Nat.zero_le _, Nat.zero_le _⟩ ?_
    rw [decide_eq_true h1]
    refine b_if_eq (b := true) (pc := 32) 37 (by decide) dX8_restore_32 (fun h9 => by cases h9) (fun _ => ?_)
    refine n_iconst_0 (pc := 35) dX8_restore_35 ?_
    refine p_ireturn (pc := 36) false rfl rfl rfl dX8_restore_36 (Nat.zero_le _) (Nat.zero_le _) (Or.inl rfl) ?_
    rw [e]
    exact ⟨rfl, _, h.ii0 _, rfl, rfl⟩
  have ok :
    G mX8_restore 12 (.inl false) 0 0 (tMo M b (A_restore x w)) none 0 0 37 [some (.ref b), some (.int x)] [] (kset M b (ii S 0 (nI 0)))
    →
    G mX8_restore 12 (.inl false) 0 0 (tMo M b (A_restore x w)) none 0 0 29 [some (.ref b), some (.int x)] [.int (nI 0), .ref b] (kset M b S)
    := by
    intro hb9
    refine r_callV1i (pc := 29) lk_X8_167 dX8_restore_29 (kget0 rfl) (s8_refused (by decide)) (by decide) (Nat.le_of_ble_eq_true rfl) ⟨Nat.zero_le _, Nat.zero_le _⟩ ?_
    refine b_if_eq (b := false) (pc := 32) 37 (by decide) dX8_restore_32 (fun _ => hb9) (fun h9 => by cases h9)
  have ea : A_restore x w = if inR x 2 then (match wu w (nm x) with
    | some y => rO (iI (erAll y)) (y, (0, wg w), w.2.2)
    | none => rN 2 w) else rN 1 w := rfl
  refine r_aload0 (pc := 0) dX8_restore_0 ?_
  refine r_iload1 (pc := 1) dX8_restore_1 ?_
  refine r_i2l (pc := 2) dX8_restore_2 ?_
  refine r_lconst_0 (pc := 3) dX8_restore_3 ?_
  refine r_lconst_1 (pc := 4) dX8_restore_4 ?_
  refine r_callS3i (pc := 5) lk_X8_50 dX8_restore_5 (s8_inAB (a := 0) (b := 1) (by decide) (by decide)) (by decide) (Nat.le_of_ble_eq_true rfl) ⟨Nat.zero_le _, Nat.zero_le _⟩ ?_
  rw [inB_R]
  refine b_if_ne (pc := 8) 15 (by decide) dX8_restore_8 (fun h1 => ?_) (fun h1 => ?_)
  · rw [h1] at ea
    have ea : A_restore x w = match wu w (nm x) with
      | some y => rO (iI (erAll y)) (y, (0, wg w), w.2.2)
      | none => rN 2 w := ea
    obtain ⟨c1, c2⟩ := inR_nm h1 (by omega)
    generalize nm x = n at *
    subst c2
    obtain ⟨q1, q2⟩ := h.2.2.2 n c1
    refine r_aload0 (pc := 15) dX8_restore_15 ?_
    refine r_getf (pc := 16) fl_X8_25 dX8_restore_16 (kget0 rfl) rfl ?_
    refine r_iload1 (pc := 19) dX8_restore_19 ?_
    refine n_zald (pc := 20) dX8_restore_20 (kget rfl) (by omega) (by decide) q1 ?_
    cases hu : wu w n with
    | none =>
      rw [hu] at ea
      refine b_if_ne (b := false) (pc := 21) 28 (by decide) dX8_restore_21 (fun h9 => by cases h9) (fun _ => ?_)
      refine n_iconst_2 (pc := 24) dX8_restore_24 ?_
      refine r_goto (pc := 25) 29 (by decide) dX8_restore_25 ?_
      exact no 2 (by omega) (by omega) ea
    | some y =>
      rw [hu] at ea
      have ea : A_restore (nI n) w = rO (iI (erAll y)) (y, (0, wg w), w.2.2) := ea
      have hy := hW.2.2.1 n y hu
      refine b_if_ne (b := true) (pc := 21) 28 (by decide) dX8_restore_21 (fun _ => ?_) (fun h9 => by cases h9)
      refine n_iconst_0 (pc := 28) dX8_restore_28 ?_
      refine ok ?_
      refine r_aload0 (pc := 37) dX8_restore_37 ?_
      refine r_getf (pc := 38) fl_X8_22 dX8_restore_38 (kget0 rfl) rfl ?_
      refine n_sipush (pc := 41) 563 (by decide) dX8_restore_41 ?_
      refine r_iload1 (pc := 44) dX8_restore_44 ?_
      first | refine n_imul (pc := 45) dX8_restore_45 ?_ | refine z_imul (pc := 45) dX8_restore_45 ?_ | refine r_imul (pc := 45) dX8_restore_45 ?_
      refine r_aload0 (pc := 46) dX8_restore_46 ?_
      refine r_getf (pc := 47) fl_X8_13 dX8_restore_47 (kget0 rfl) rfl ?_
      refine n_iconst_0 (pc := 50) dX8_restore_50 ?_
      refine r_callS4v (pc := 51) lk_X8_234 dX8_restore_51 (cp_41 (by omega)) (by decide) (Nat.le_of_ble_eq_true rfl) ⟨Nat.zero_le _, Nat.zero_le _⟩ ?_
      refine r_aload0 (pc := 54) dX8_restore_54 ?_
      refine n_iconst_0 (pc := 55) dX8_restore_55 ?_
      refine r_putfI (pc := 56) fl_X8_238 dX8_restore_56 (kget0 rfl) (Nat.le_of_ble_eq_true rfl) ?_
      refine G_M bii_X8_6 ?_
      have hI2 : InvR (cpR (S.2 4) (S.2 1) (563 * n) 0 563) y := InvR.cg (q2 y hu) hy.1 (fun j hj => by
        have e := cpR_in (f := S.2 4) (g := S.2 1) (i0 := 563 * n) (i1 := 0) (n := 563) hj
        rw [Nat.zero_add] at e
        exact e)
      refine r_aload0 (pc := 59) dX8_restore_59 ?_
      refine r_getf (pc := 60) fl_X8_13 dX8_restore_60 (kget0 rfl) rfl ?_
      refine r_callS1i (pc := 63) lk_X8_146 dX8_restore_63 (s8_wholeError (f := cpR (S.2 4) (S.2 1) (563 * n) 0 563) (kget rfl) hI2 hy.1) (by decide) (Nat.le_of_ble_eq_true rfl) ⟨Nat.zero_le _, Nat.zero_le _⟩ ?_
      refine p_ireturn (pc := 66) false rfl rfl rfl dX8_restore_66 (Nat.zero_le _) (Nat.zero_le _) (Or.inl rfl) ?_
      rw [ea]
      refine mo rfl rfl ?_
      exact ⟨hI2, h.2.1, ⟨rfl, fun i hi => absurd hi (Nat.not_lt_zero _)⟩, h.2.2.2⟩
  · refine n_iconst_1 (pc := 11) dX8_restore_11 ?_
    refine r_goto (pc := 12) 29 (by decide) dX8_restore_12 ?_
    exact no 1 (by omega) (by omega) (by rw [ea, h1]; rfl)
end MFACE

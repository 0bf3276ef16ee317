def InvW (S : BS) (z : ZS) : Prop := (S.1 0 = nI (zc z) ∧ S.1 1 = nI (zr z) ∧ S.1 2 = nI (zq z) ∧ S.1 3 = nI (zt z) ∧ S.1 4 = nI (zn z) ∧ S.1 5 = nI (zs z) ∧ S.1 6 = zch z) ∧
  (∀ s, s < zq z → S.2 2 s = nI (zG z s)) ∧ (∀ k, k < zt z → S.2 3 k = nI (zF z k)) ∧ (∀ k, k < zt z → S.2 4 k = nI (zO z k)) ∧ (∀ k, k < zt z → S.2 5 k = nI (zT z k)) ∧ (∀ k, k < zt z → S.2 6 k = nI (zU z k)) ∧ (∀ k, k < zt z → S.2 7 k = nI (zH z k)) ∧
  (∀ t, t < zt z → S.2 8 t = nI (plo (zn z) t)) ∧ (∀ t, t < zt z → S.2 9 t = nI (phi (zn z) t)) ∧ (∀ t, t < zt z → S.2 10 t = nI (ha z t)) ∧ (∀ t, t < zt z → S.2 11 t = nI (hb z t))
theorem InvW.toB {S : BS} {z : ZS} (h : InvW S z) (hp : ∀ k, k < zt z → S.2 12 (zF z k) = nI k ∧ S.2 12 (zO z k) = nI k) : InvB S z := ⟨h.1, h.2.1, h.2.2.1, h.2.2.2.1, h.2.2.2.2.1, h.2.2.2.2.2.1, h.2.2.2.2.2.2.1, h.2.2.2.2.2.2.2.1, h.2.2.2.2.2.2.2.2.1, h.2.2.2.2.2.2.2.2.2.1, h.2.2.2.2.2.2.2.2.2.2, hp⟩
theorem InvB.toW {S : BS} {z : ZS} (h : InvB S z) : InvW S z := ⟨h.1, h.2.1, h.2.2.1, h.2.2.2.1, h.2.2.2.2.1, h.2.2.2.2.2.1, h.2.2.2.2.2.2.1, h.2.2.2.2.2.2.2.1, h.2.2.2.2.2.2.2.2.1, h.2.2.2.2.2.2.2.2.2.1, h.2.2.2.2.2.2.2.2.2.2.1⟩
theorem InvW.c3 {S : BS} {z : ZS} (h : InvW S z) : S.1 3 = nI (zt z) := h.1.2.2.2.1
theorem InvW.F {S : BS} {z : ZS} (h : InvW S z) {k : Nat} (hk : k < zt z) : S.2 3 k = nI (zF z k) := h.2.2.1 k hk
theorem InvW.O {S : BS} {z : ZS} (h : InvW S z) {k : Nat} (hk : k < zt z) : S.2 4 k = nI (zO z k) := h.2.2.2.1 k hk
theorem InvW.pl {S : BS} {z : ZS} (h : InvW S z) (f : Nat → Int32) : InvW (ia S 12 f) z := h
section START
variable {M : Mem} {b : Nat} {S : BS} {z : ZS}
set_option maxRecDepth 20000 in
theorem s_markPlaces (hI : InvW S z) (hZ : ZOK z) : SpecP mX0_markPlaces 2 0 0 [.ref b] (bset M b S) (tB none M b z) := by
  have hd := hZ.dims
  refine Spec_of [some (.ref b), none] (by decide) (Nat.le_of_ble_eq_true rfl) rfl ?_
  refine n_iconst_0 (pc := 0) dX0_markPlaces_0 ?_
  refine r_istore1 (pc := 1) dX0_markPlaces_1 rfl ?_
  refine up_to (N := zt z) (k := 0) (fun i => ∀ S, InvW S z → (∀ k, k < i → S.2 12 (zF z k) = nI k ∧ S.2 12 (zO z k) = nI k) →
    G mX0_markPlaces 2 (.inl false) 0 0 (tB none M b z) none 0 0 2 [some (.ref b), some (.int (nI i))] [] (bset M b S)
    ) (fun S hI hp => ?_) (fun i hi ih S hI hp => ?_) (Nat.zero_le _) S hI (fun k hk => absurd hk (by omega))
  · have hc3 := hI.c3
    refine r_iload1 (pc := 2) dX0_markPlaces_2 ?_
    refine r_aload0 (pc := 3) dX0_markPlaces_3 ?_
    refine r_getf (pc := 4) fl_X0_75 dX0_markPlaces_4 (bget0 rfl) rfl ?_
    rw [hc3]
    refine n_icmp_ge (pc := 7) 54 (by decide) dX0_markPlaces_7 (by omega) (by omega) (fun hc7 => ?_) (fun hc7 => absurd hc7 (by omega))
    exact p_return (pc := 54) false rfl rfl dX0_markPlaces_54 (Nat.zero_le _) (Nat.zero_le _) (Or.inl rfl) ⟨rfl, S, hI.toB hp, rfl⟩
  · have hf := hZ.fo hi
    have hc3 := hI.c3
    refine r_iload1 (pc := 2) dX0_markPlaces_2 ?_
    refine r_aload0 (pc := 3) dX0_markPlaces_3 ?_
    refine r_getf (pc := 4) fl_X0_75 dX0_markPlaces_4 (bget0 rfl) rfl ?_
    rw [hc3]
    refine n_icmp_ge (pc := 7) 54 (by decide) dX0_markPlaces_7 (by omega) (by omega) (fun hc7 => absurd hc7 (by omega)) (fun hc7 => ?_)
    refine r_aload0 (pc := 10) dX0_markPlaces_10 ?_
    refine r_getf (pc := 11) fl_X0_31 dX0_markPlaces_11 (bget0 rfl) rfl ?_
    refine r_aload0 (pc := 14) dX0_markPlaces_14 ?_
    refine r_getf (pc := 15) fl_X0_12 dX0_markPlaces_15 (bget0 rfl) rfl ?_
    refine r_getf (pc := 18) fl_X0_109 dX0_markPlaces_18 (bget rfl) rfl ?_
    refine r_iload1 (pc := 21) dX0_markPlaces_21 ?_
    refine r_callN2i (pc := 22) lk_X0_115 dX0_markPlaces_22 (s_at (bget rfl) (by omega) (by decide) (hI.F hi)) (by decide) (Nat.le_of_ble_eq_true rfl) ⟨Nat.zero_le _, Nat.zero_le _⟩ ?_
    refine r_iload1 (pc := 25) dX0_markPlaces_25 ?_
    refine r_callN3v (pc := 26) lk_X0_85 dX0_markPlaces_26 (s_putB (j := 12) (by decide) rfl (fun _ => rfl) (by omega) (by decide)) (by decide) (Nat.le_of_ble_eq_true rfl) ⟨Nat.zero_le _, Nat.zero_le _⟩ ?_
    refine r_aload0 (pc := 29) dX0_markPlaces_29 ?_
    refine r_getf (pc := 30) fl_X0_31 dX0_markPlaces_30 (bget0 rfl) rfl ?_
    refine r_aload0 (pc := 33) dX0_markPlaces_33 ?_
    refine r_getf (pc := 34) fl_X0_12 dX0_markPlaces_34 (bget0 rfl) rfl ?_
    refine r_getf (pc := 37) fl_X0_112 dX0_markPlaces_37 (bget rfl) rfl ?_
    refine r_iload1 (pc := 40) dX0_markPlaces_40 ?_
    refine r_callN2i (pc := 41) lk_X0_115 dX0_markPlaces_41 (s_at (bget rfl) (by omega) (by decide) (hI.O hi)) (by decide) (Nat.le_of_ble_eq_true rfl) ⟨Nat.zero_le _, Nat.zero_le _⟩ ?_
    refine r_iload1 (pc := 44) dX0_markPlaces_44 ?_
    refine r_callN3v (pc := 45) lk_X0_85 dX0_markPlaces_45 (s_putB (j := 12) (by decide) rfl (fun _ => rfl) (by omega) (by decide)) (by decide) (Nat.le_of_ble_eq_true rfl) ⟨Nat.zero_le _, Nat.zero_le _⟩ ?_
    refine n_iinc1 (pc := 48) dX0_markPlaces_48 rfl ?_
    refine r_goto (pc := 51) 2 (by decide) dX0_markPlaces_51 ?_
    refine ih _ hI (fun k hk => ?_)
    show upd (upd (S.2 12) (zF z i) (nI i)) (zO z i) (nI i) (zF z k) = nI k ∧ upd (upd (S.2 12) (zF z i) (nI i)) (zO z i) (nI i) (zO z k) = nI k
    by_cases e : k = i
    · subst e
      rw [upd_ne (hZ.fno hi hi), upd_same, upd_same]; exact ⟨rfl, rfl⟩
    · have hk1 : k < zt z := by omega
      have h1 := hp k (by omega)
      rw [upd_ne (hZ.fno hk1 hi), upd_ne (fun h => e (hZ.finj hk1 hi h)), upd_ne (fun h => e (hZ.oinj hk1 hi h)), upd_ne (fun h => hZ.fno hi hk1 h.symm)]
      exact h1
def tT (n : Nat) : Nat := (n + 1) * (n + 2) / 2
def offs (n a : Nat) : Nat := a * (n + 1) - a * (a - 1) / 2
def chO (n a : Nat) : Bool := !(decide (2 ≤ n) && decide (a ≤ n)) || (decide (offs n (a + 1) = offs n a + (n + 1 - a)) && (decide (offs n (n + 1) = tT n) && decide (offs n 0 = 0)))
theorem chO_all : (List.range 7).all (fun n => (List.range 7).all (fun a => chO n a)) = true := by decide +kernel
theorem off_facts (n : Nat) (hn : n < 7) (a : Nat) (ha : a < 7) (h1 : 2 ≤ n) (h2 : a ≤ n) : offs n (a + 1) = offs n a + (n + 1 - a) ∧ offs n (n + 1) = tT n ∧ offs n 0 = 0 := by
  have h := List.all_eq_true.mp (List.all_eq_true.mp chO_all n (List.mem_range.mpr hn)) a (List.mem_range.mpr ha)
  simpa [chO, h1, h2] using h
def chP (n m a c : Nat) : Bool := !(decide (2 ≤ n) && (decide (a ≤ n) && (decide (a ≤ c) && decide (c ≤ n)))) || (decide (plo n (m * tT n + offs n a + (c - a)) = a) && (decide (phi n (m * tT n + offs n a + (c - a)) = c) && decide (m * tT n + offs n a + (c - a) < 56)))
theorem chP_all : (List.range 7).all (fun n => (List.range 2).all (fun m => (List.range 7).all (fun a => (List.range 7).all (fun c => chP n m a c)))) = true := by decide +kernel
theorem pip_facts (n : Nat) (hn : n < 7) (m : Nat) (hm : m < 2) (a : Nat) (ha : a < 7) (c : Nat) (hc : c < 7) (h1 : 2 ≤ n) (h2 : a ≤ n) (h3 : a ≤ c) (h4 : c ≤ n) : plo n (m * tT n + offs n a + (c - a)) = a ∧ phi n (m * tT n + offs n a + (c - a)) = c ∧ m * tT n + offs n a + (c - a) < 56 := by
  have h := List.all_eq_true.mp (List.all_eq_true.mp (List.all_eq_true.mp (List.all_eq_true.mp chP_all n (List.mem_range.mpr hn)) m (List.mem_range.mpr hm)) a (List.mem_range.mpr ha)) c (List.mem_range.mpr hc)
  simpa [chP, h1, h2, h3, h4] using h
theorem zt_tT {n m : Nat} (h1 : 2 ≤ n) (h2 : n ≤ 6) (h3 : m ≤ 2) : (n + 2) * ((n + 1) * m) / 2 = m * tT n := by
  have e1 : n = 2 ∨ n = 3 ∨ n = 4 ∨ n = 5 ∨ n = 6 := by omega
  have e2 : m = 0 ∨ m = 1 ∨ m = 2 := by omega
  rcases e1 with e | e | e | e | e <;> rcases e2 with f | f | f <;> subst e f <;> decide
/-- pips and shades are written up to t -/
def RW (S : BS) (n t0 : Nat) : Prop := ∀ t, t < t0 → S.2 8 t = nI (plo n t) ∧ S.2 9 t = nI (phi n t) ∧ S.2 10 t = nI (sh n (plo n t)) ∧ S.2 11 t = nI (sh n (phi n t))
/-- what measure leaves alone -/
def FR (S S' : BS) : Prop := (∀ j, ¬ (8 ≤ j ∧ j ≤ 11) → S'.2 j = S.2 j) ∧ ∀ i, 4 ≤ i → S'.1 i = S.1 i
def MS (S' : BS) (n m : Nat) : Prop := S'.1 0 = nI (n + 2) ∧ S'.1 1 = nI ((n + 1) * m) ∧ S'.1 2 = nI ((n + 2) * ((n + 1) * m)) ∧ S'.1 3 = nI ((n + 2) * ((n + 1) * m) / 2) ∧ S'.1 4 = nI n ∧ S'.1 5 = nI m
set_option maxRecDepth 20000 in
theorem s_shadeW {n p : Nat} (hc : S.1 4 = nI n) (h1 : 2 ≤ n) (h2 : n ≤ 6) (hp : p ≤ 6) : Spec mX0_shade 1 0 0 [.ref b, .int (nI p)] (bset M b S) (some (.int (nI (sh n p)))) (bset M b S) := by
  refine Spec_of [some (.ref b), some (.int (nI p))] (by decide) (Nat.le_of_ble_eq_true rfl) rfl ?_
  refine r_aload0 (pc := 0) dX0_shade_0 ?_
  refine r_getf (pc := 1) fl_X0_12 dX0_shade_1 (bget0 rfl) rfl ?_
  refine r_getf (pc := 4) fl_X0_47 dX0_shade_4 (bget rfl) rfl ?_
  rw [hc]
  refine n_if_le (pc := 7) 25 (by decide) dX0_shade_7 (by omega) (fun hc7 => absurd hc7 (by omega)) (fun hc7 => ?_)
  refine n_bipush (pc := 10) 99 (by decide) dX0_shade_10 ?_
  refine r_iload1 (pc := 12) dX0_shade_12 ?_
  first | refine n_imul (pc := 13) dX0_shade_13 ?_ | refine z_imul (pc := 13) dX0_shade_13 ?_ | refine r_imul (pc := 13) dX0_shade_13 ?_
  refine r_aload0 (pc := 14) dX0_shade_14 ?_
  refine r_getf (pc := 15) fl_X0_12 dX0_shade_15 (bget0 rfl) rfl ?_
  refine r_getf (pc := 18) fl_X0_47 dX0_shade_18 (bget rfl) rfl ?_
  rw [hc]
  refine n_idiv (pc := 21) dX0_shade_21 (by omega) (by omega) (by omega) ?_
  refine r_goto (pc := 22) 26 (by decide) dX0_shade_22 ?_
  exact r_ireturn (pc := 26) false rfl rfl rfl dX0_shade_26 (Nat.zero_le _) (Nat.zero_le _) (Or.inl rfl) rfl rfl rfl
set_option maxRecDepth 20000 in
theorem s_measure {n m : Nat} (hc4 : S.1 4 = nI n) (hc5 : S.1 5 = nI m) (h1 : 2 ≤ n) (h2 : n ≤ 6) (h3 : 1 ≤ m) (h4 : m ≤ 2) : SpecP mX0_measure 2 0 0 [.ref b] (bset M b S) (tP none (fun Mf => ∃ S', MS S' n m ∧ RW S' n (m * tT n) ∧ FR S S' ∧ Mf = bset M b S')) := by
  have hq : (n + 2) * ((n + 1) * m) ≤ 112 ∧ (n + 1) * m ≤ 14 := by
    have e1 : n = 2 ∨ n = 3 ∨ n = 4 ∨ n = 5 ∨ n = 6 := by omega
    have e2 : m = 1 ∨ m = 2 := by omega
    rcases e1 with e | e | e | e | e <;> rcases e2 with f | f <;> subst e f <;> decide
  refine Spec_of [some (.ref b), none, none, none, none] (by decide) (Nat.le_of_ble_eq_true rfl) rfl ?_
  have body : ∀ S1 : BS, MS S1 n m → FR S S1 →
    G mX0_measure 2 (.inl false) 0 0 (tP none (fun Mf => ∃ S', MS S' n m ∧ RW S' n (m * tT n) ∧ FR S S' ∧ Mf = bset M b S')) none 0 0 57 [some (.ref b), none, none, none, none] [] (bset M b S1)
    := by
    intro S1 hM1 hF1
    refine n_iconst_0 (pc := 57) dX0_measure_57 ?_
    refine r_istore1 (pc := 58) dX0_measure_58 rfl ?_
    refine n_iconst_0 (pc := 59) dX0_measure_59 ?_
    refine r_istore2 (pc := 60) dX0_measure_60 rfl ?_
    refine up_to (N := m) (k := 0) (fun st => ∀ S2 a3 a4, nc a3 = true → nc a4 = true → MS S2 n m → FR S S2 → RW S2 n (st * tT n) →
      G mX0_measure 2 (.inl false) 0 0 (tP none (fun Mf => ∃ S', MS S' n m ∧ RW S' n (m * tT n) ∧ FR S S' ∧ Mf = bset M b S')) none 0 0 61 [some (.ref b), some (.int (nI (st * tT n))), some (.int (nI st)), a3, a4] [] (bset M b S2)
      ) (fun S2 a3 a4 n3 n4 hM hF hR => ?_) (fun st hst ih S2 a3 a4 n3 n4 hM hF hR => ?_) (Nat.zero_le _) S1 none none rfl rfl hM1 hF1 (fun t ht => absurd ht (by omega)) |> fun h => by simpa using h
    · have hc5 := hM.2.2.2.2.2
      refine r_iload2 (pc := 61) dX0_measure_61 ?_
      refine r_aload0 (pc := 62) dX0_measure_62 ?_
      refine r_getf (pc := 63) fl_X0_12 dX0_measure_63 (bget0 rfl) rfl ?_
      refine r_getf (pc := 66) fl_X0_51 dX0_measure_66 (bget rfl) rfl ?_
      rw [hc5]
      refine n_icmp_ge (pc := 69) 167 (by decide) dX0_measure_69 (by omega) (by omega) (fun hc69 => ?_) (fun hc69 => absurd hc69 (by omega))
      exact p_return (pc := 167) false rfl rfl dX0_measure_167 (Nat.zero_le _) (Nat.zero_le _) (Or.inl rfl) ⟨rfl, S2, hM, hR, hF, rfl⟩
    · have hc5 := hM.2.2.2.2.2
      refine r_iload2 (pc := 61) dX0_measure_61 ?_
      refine r_aload0 (pc := 62) dX0_measure_62 ?_
      refine r_getf (pc := 63) fl_X0_12 dX0_measure_63 (bget0 rfl) rfl ?_
      refine r_getf (pc := 66) fl_X0_51 dX0_measure_66 (bget rfl) rfl ?_
      rw [hc5]
      refine n_icmp_ge (pc := 69) 167 (by decide) dX0_measure_69 (by omega) (by omega) (fun hc69 => absurd hc69 (by omega)) (fun hc69 => ?_)
      refine n_iconst_0 (pc := 72) dX0_measure_72 ?_
      refine r_istore3 (pc := 73) dX0_measure_73 rfl ?_
      refine up_to (N := n + 1) (k := 0) (fun a => ∀ S3 a4, nc a4 = true → MS S3 n m → FR S S3 → RW S3 n (st * tT n + offs n a) →
        G mX0_measure 2 (.inl false) 0 0 (tP none (fun Mf => ∃ S', MS S' n m ∧ RW S' n (m * tT n) ∧ FR S S' ∧ Mf = bset M b S')) none 0 0 74 [some (.ref b), some (.int (nI (st * tT n + offs n a))), some (.int (nI st)), some (.int (nI a)), a4] [] (bset M b S3)
        ) (fun S3 a4 n4 hM hF hR => ?_) (fun a ha ih2 S3 a4 n4 hM hF hR => ?_) (Nat.zero_le _) S2 a4 n4 hM hF (by rw [(off_facts n (by omega) 0 (by omega) h1 (by omega)).2.2]; exact hR) |> fun h => by rw [(off_facts n (by omega) 0 (by omega) h1 (by omega)).2.2] at h; exact h
      · have hc4 := hM.2.2.2.2.1
        have e := (off_facts n (by omega) 0 (by omega) h1 (by omega)).2.1
        rw [e, show st * tT n + tT n = (st + 1) * tT n from (Nat.succ_mul _ _).symm] at hR ⊢
        refine r_iload3 (pc := 74) dX0_measure_74 ?_
        refine r_aload0 (pc := 75) dX0_measure_75 ?_
        refine r_getf (pc := 76) fl_X0_12 dX0_measure_76 (bget0 rfl) rfl ?_
        refine r_getf (pc := 79) fl_X0_47 dX0_measure_79 (bget rfl) rfl ?_
        rw [hc4]
        refine n_icmp_gt (pc := 82) 161 (by decide) dX0_measure_82 (by omega) (by omega) (fun hc82 => ?_) (fun hc82 => absurd hc82 (by omega))
        refine n_iinc2 (pc := 161) dX0_measure_161 rfl ?_
        refine r_goto (pc := 164) 61 (by decide) dX0_measure_164 ?_
        exact ih S3 _ _ rfl n4 hM hF hR
      · have hc4 := hM.2.2.2.2.1
        obtain ⟨e1, -, -⟩ := off_facts n (by omega) a (by omega) h1 (by omega)
        refine r_iload3 (pc := 74) dX0_measure_74 ?_
        refine r_aload0 (pc := 75) dX0_measure_75 ?_
        refine r_getf (pc := 76) fl_X0_12 dX0_measure_76 (bget0 rfl) rfl ?_
        refine r_getf (pc := 79) fl_X0_47 dX0_measure_79 (bget rfl) rfl ?_
        rw [hc4]
        refine n_icmp_gt (pc := 82) 161 (by decide) dX0_measure_82 (by omega) (by omega) (fun hc82 => absurd hc82 (by omega)) (fun hc82 => ?_)
        refine r_iload3 (pc := 85) dX0_measure_85 ?_
        refine r_istore4 (pc := 86) dX0_measure_86 rfl ?_
        refine up_to (N := n + 1) (k := a) (fun c => ∀ S4, a ≤ c → MS S4 n m → FR S S4 → RW S4 n (st * tT n + offs n a + (c - a)) →
          G mX0_measure 2 (.inl false) 0 0 (tP none (fun Mf => ∃ S', MS S' n m ∧ RW S' n (m * tT n) ∧ FR S S' ∧ Mf = bset M b S')) none 0 0 88 [some (.ref b), some (.int (nI (st * tT n + offs n a + (c - a)))), some (.int (nI st)), some (.int (nI a)), some (.int (nI c))] [] (bset M b S4)
          ) (fun S4 hac hM hF hR => ?_) (fun c hc ih3 S4 hac hM hF hR => ?_) (by omega) S3 (Nat.le_refl _) hM hF (by rw [Nat.sub_self]; exact hR) |> fun h => by rw [Nat.sub_self] at h; exact h
        · have hc4 := hM.2.2.2.2.1
          rw [Nat.add_assoc, ← e1] at hR ⊢
          refine r_iload4 (pc := 88) dX0_measure_88 ?_
          refine r_aload0 (pc := 90) dX0_measure_90 ?_
          refine r_getf (pc := 91) fl_X0_12 dX0_measure_91 (bget0 rfl) rfl ?_
          refine r_getf (pc := 94) fl_X0_47 dX0_measure_94 (bget rfl) rfl ?_
          rw [hc4]
          refine n_icmp_gt (pc := 97) 155 (by decide) dX0_measure_97 (by omega) (by omega) (fun hc97 => ?_) (fun hc97 => absurd hc97 (by omega))
          refine n_iinc3 (pc := 155) dX0_measure_155 rfl ?_
          refine r_goto (pc := 158) 74 (by decide) dX0_measure_158 ?_
          exact ih2 S4 _ rfl hM hF hR
        · have hc4 := hM.2.2.2.2.1
          obtain ⟨p1, p2, p3⟩ := pip_facts n (by omega) st (by omega) a (by omega) c (by omega) h1 (by omega) hac (by omega)
          generalize hte : st * tT n + offs n a + (c - a) = t at *
          refine r_iload4 (pc := 88) dX0_measure_88 ?_
          refine r_aload0 (pc := 90) dX0_measure_90 ?_
          refine r_getf (pc := 91) fl_X0_12 dX0_measure_91 (bget0 rfl) rfl ?_
          refine r_getf (pc := 94) fl_X0_47 dX0_measure_94 (bget rfl) rfl ?_
          rw [hc4]
          refine n_icmp_gt (pc := 97) 155 (by decide) dX0_measure_97 (by omega) (by omega) (fun hc97 => absurd hc97 (by omega)) (fun hc97 => ?_)
          refine r_aload0 (pc := 100) dX0_measure_100 ?_
          refine r_getf (pc := 101) fl_X0_18 dX0_measure_101 (bget0 rfl) rfl ?_
          refine r_iload1 (pc := 104) dX0_measure_104 ?_
          refine r_iload3 (pc := 105) dX0_measure_105 ?_
          refine r_callN3v (pc := 106) lk_X0_85 dX0_measure_106 (s_putB (j := 8) (by decide) rfl (fun _ => rfl) (by omega) (by decide)) (by decide) (Nat.le_of_ble_eq_true rfl) ⟨Nat.zero_le _, Nat.zero_le _⟩ ?_
          refine r_aload0 (pc := 109) dX0_measure_109 ?_
          refine r_getf (pc := 110) fl_X0_22 dX0_measure_110 (bget0 rfl) rfl ?_
          refine r_iload1 (pc := 113) dX0_measure_113 ?_
          refine r_iload4 (pc := 114) dX0_measure_114 ?_
          refine r_callN3v (pc := 116) lk_X0_85 dX0_measure_116 (s_putB (j := 9) (by decide) rfl (fun _ => rfl) (by omega) (by decide)) (by decide) (Nat.le_of_ble_eq_true rfl) ⟨Nat.zero_le _, Nat.zero_le _⟩ ?_
          refine r_aload0 (pc := 119) dX0_measure_119 ?_
          refine r_getf (pc := 120) fl_X0_25 dX0_measure_120 (bget0 rfl) rfl ?_
          refine r_iload1 (pc := 123) dX0_measure_123 ?_
          refine r_aload0 (pc := 124) dX0_measure_124 ?_
          refine r_iload3 (pc := 125) dX0_measure_125 ?_
          refine r_callV1i (pc := 126) lk_X0_105 dX0_measure_126 (bget0 rfl) (s_shadeW hc4 h1 h2 (by omega)) (by decide) (Nat.le_of_ble_eq_true rfl) ⟨Nat.zero_le _, Nat.zero_le _⟩ ?_
          refine r_callN3v (pc := 129) lk_X0_85 dX0_measure_129 (s_putB (j := 10) (by decide) rfl (fun _ => rfl) (by omega) (by decide)) (by decide) (Nat.le_of_ble_eq_true rfl) ⟨Nat.zero_le _, Nat.zero_le _⟩ ?_
          refine r_aload0 (pc := 132) dX0_measure_132 ?_
          refine r_getf (pc := 133) fl_X0_28 dX0_measure_133 (bget0 rfl) rfl ?_
          refine r_iload1 (pc := 136) dX0_measure_136 ?_
          refine r_aload0 (pc := 137) dX0_measure_137 ?_
          refine r_iload4 (pc := 138) dX0_measure_138 ?_
          refine r_callV1i (pc := 140) lk_X0_105 dX0_measure_140 (bget0 rfl) (s_shadeW hc4 h1 h2 (by omega)) (by decide) (Nat.le_of_ble_eq_true rfl) ⟨Nat.zero_le _, Nat.zero_le _⟩ ?_
          refine r_callN3v (pc := 143) lk_X0_85 dX0_measure_143 (s_putB (j := 11) (by decide) rfl (fun _ => rfl) (by omega) (by decide)) (by decide) (Nat.le_of_ble_eq_true rfl) ⟨Nat.zero_le _, Nat.zero_le _⟩ ?_
          refine n_iinc1 (pc := 146) dX0_measure_146 rfl ?_
          refine n_iinc4 (pc := 149) dX0_measure_149 rfl ?_
          refine r_goto (pc := 152) 88 (by decide) dX0_measure_152 ?_
          have e2 : st * tT n + offs n a + (c + 1 - a) = t + 1 := by omega
          rw [e2] at ih3
          refine ih3 _ (by omega) hM ⟨fun j hj => ?_, hF.2⟩ (fun t2 ht2 => ?_)
          · show (if j = 11 then _ else if j = 10 then _ else if j = 9 then _ else if j = 8 then _ else S4.2 j) = S.2 j
            rw [if_neg (by omega), if_neg (by omega), if_neg (by omega), if_neg (by omega)]
            exact hF.1 j hj
          · show upd (S4.2 8) t (nI a) t2 = _ ∧ upd (S4.2 9) t (nI c) t2 = _ ∧ upd (S4.2 10) t (nI (sh n a)) t2 = _ ∧ upd (S4.2 11) t (nI (sh n c)) t2 = _
            by_cases e : t2 = t
            · rw [e, upd_same, upd_same, upd_same, upd_same, p1, p2]; exact ⟨rfl, rfl, rfl, rfl⟩
            · rw [upd_ne e, upd_ne e, upd_ne e, upd_ne e]; exact hR t2 (by omega)
  refine r_aload0 (pc := 0) dX0_measure_0 ?_
  refine r_aload0 (pc := 1) dX0_measure_1 ?_
  refine r_getf (pc := 2) fl_X0_12 dX0_measure_2 (bget0 rfl) rfl ?_
  refine r_getf (pc := 5) fl_X0_47 dX0_measure_5 (bget rfl) rfl ?_
  rw [hc4]
  refine n_iconst_2 (pc := 8) dX0_measure_8 ?_
  first | refine n_iadd (pc := 9) dX0_measure_9 ?_ | refine z_iadd (pc := 9) dX0_measure_9 ?_ | refine r_iadd (pc := 9) dX0_measure_9 ?_
  refine r_putfI (pc := 10) fl_X0_96 dX0_measure_10 (bget0 rfl) (Nat.le_of_ble_eq_true rfl) ?_
  refine G_M bii_X0_1 ?_
  refine r_aload0 (pc := 13) dX0_measure_13 ?_
  refine r_aload0 (pc := 14) dX0_measure_14 ?_
  refine r_getf (pc := 15) fl_X0_12 dX0_measure_15 (bget0 rfl) rfl ?_
  refine r_getf (pc := 18) fl_X0_47 dX0_measure_18 (bget rfl) rfl ?_
  rw [show (ii S 0 (nI (n + 2))).1 4 = nI n from hc4]
  refine n_iconst_1 (pc := 21) dX0_measure_21 ?_
  first | refine n_iadd (pc := 22) dX0_measure_22 ?_ | refine z_iadd (pc := 22) dX0_measure_22 ?_ | refine r_iadd (pc := 22) dX0_measure_22 ?_
  refine r_aload0 (pc := 23) dX0_measure_23 ?_
  refine r_getf (pc := 24) fl_X0_12 dX0_measure_24 (bget0 rfl) rfl ?_
  refine r_getf (pc := 27) fl_X0_51 dX0_measure_27 (bget rfl) rfl ?_
  rw [show (ii S 0 (nI (n + 2))).1 5 = nI m from hc5]
  first | refine n_imul (pc := 30) dX0_measure_30 ?_ | refine z_imul (pc := 30) dX0_measure_30 ?_ | refine r_imul (pc := 30) dX0_measure_30 ?_
  refine r_putfI (pc := 31) fl_X0_99 dX0_measure_31 (bget0 rfl) (Nat.le_of_ble_eq_true rfl) ?_
  refine G_M bii_X0_2 ?_
  refine r_aload0 (pc := 34) dX0_measure_34 ?_
  refine r_aload0 (pc := 35) dX0_measure_35 ?_
  refine r_getf (pc := 36) fl_X0_96 dX0_measure_36 (bget0 rfl) rfl ?_
  rw [show (ii (ii S 0 (nI (n + 2))) 1 (nI ((n + 1) * m))).1 0 = nI (n + 2) from rfl]
  refine r_aload0 (pc := 39) dX0_measure_39 ?_
  refine r_getf (pc := 40) fl_X0_99 dX0_measure_40 (bget0 rfl) rfl ?_
  rw [show (ii (ii S 0 (nI (n + 2))) 1 (nI ((n + 1) * m))).1 1 = nI ((n + 1) * m) from rfl]
  first | refine n_imul (pc := 43) dX0_measure_43 ?_ | refine z_imul (pc := 43) dX0_measure_43 ?_ | refine r_imul (pc := 43) dX0_measure_43 ?_
  refine r_putfI (pc := 44) fl_X0_102 dX0_measure_44 (bget0 rfl) (Nat.le_of_ble_eq_true rfl) ?_
  refine G_M bii_X0_3 ?_
  refine r_aload0 (pc := 47) dX0_measure_47 ?_
  refine r_aload0 (pc := 48) dX0_measure_48 ?_
  refine r_getf (pc := 49) fl_X0_102 dX0_measure_49 (bget0 rfl) rfl ?_
  rw [show (ii (ii (ii S 0 (nI (n + 2))) 1 (nI ((n + 1) * m))) 2 (nI ((n + 2) * ((n + 1) * m)))).1 2 = nI ((n + 2) * ((n + 1) * m)) from rfl]
  refine n_iconst_2 (pc := 52) dX0_measure_52 ?_
  refine n_idiv (pc := 53) dX0_measure_53 (by omega) (by omega) (by omega) ?_
  refine r_putfI (pc := 54) fl_X0_75 dX0_measure_54 (bget0 rfl) (Nat.le_of_ble_eq_true rfl) ?_
  refine G_M bii_X0_4 ?_
  exact body _ ⟨rfl, rfl, rfl, rfl, hc4, hc5⟩ ⟨fun _ _ => rfl, fun i hi => by
    show (if i = 3 then _ else if i = 2 then _ else if i = 1 then _ else if i = 0 then _ else S.1 i) = S.1 i
    rw [if_neg (by omega), if_neg (by omega), if_neg (by omega), if_neg (by omega)]⟩
theorem MS.toW {S' : BS} {z : ZS} {T : SS} (hM : MS S' (zn z) (zs z)) (hR : RW S' (zn z) (zs z * tT (zn z))) (hn : 2 ≤ zn z ∧ zn z ≤ 6 ∧ 1 ≤ zs z ∧ zs z ≤ 2) (hT : InvS T z) (e0 : S'.1 6 = T.1 2) (e : ∀ j, j < 6 → S'.2 (2 + j) = T.2 j) : InvW S' z := by
  obtain ⟨m0, m1, m2, m3, m4, m5⟩ := hM
  obtain ⟨⟨t0, t1, t2⟩, g0, g1, g2, g3, g4, g5⟩ := hT
  have hz : zt z = zs z * tT (zn z) := zt_tT hn.1 hn.2.1 hn.2.2.2
  rw [← hz] at hR
  refine ⟨⟨m0, m1, m2, m3, m4, m5, by rw [e0]; exact t2⟩, ?_, ?_, ?_, ?_, ?_, ?_, fun t ht => (hR t ht).1, fun t ht => (hR t ht).2.1, fun t ht => (hR t ht).2.2.1, fun t ht => (hR t ht).2.2.2⟩
  · rw [show (2 : Nat) = 2 + 0 from rfl, e 0 (by decide)]; exact g0
  · rw [show (3 : Nat) = 2 + 1 from rfl, e 1 (by decide)]; exact g1
  · rw [show (4 : Nat) = 2 + 2 from rfl, e 2 (by decide)]; exact g2
  · rw [show (5 : Nat) = 2 + 3 from rfl, e 3 (by decide)]; exact g3
  · rw [show (6 : Nat) = 2 + 4 from rfl, e 4 (by decide)]; exact g4
  · rw [show (7 : Nat) = 2 + 5 from rfl, e 5 (by decide)]; exact g5
set_option maxRecDepth 20000 in
theorem s_takeFrom {a : Nat} {T : SS} (hac : a + 7 ≤ b + 1 ∨ b + 8 ≤ a) (hT : sAt M a T) (hTa : sAt (bset M b S) a T) (hI : InvS T z) (hZ : ZOK z) : SpecP mX0_takeFrom 3 0 0 [.ref b, .ref a] (bset M b S) (tB none M b z) := by
  have hn := hZ.n
  have hcp : Spec mX5_copy 1 0 0 [.ref a, .ref (b + 1)] (bset M b S) none (bset M b (wSt S (cpS T (stOf S)))) := by
    have h := s_copy (M := bset M b S) (T' := stOf S) (c := b + 1) (by omega) hTa
    rw [sset_self bst_at, bst_set] at h
    exact h
  have hI2 := hI.cp (T' := stOf S) hZ
  refine Spec_of [some (.ref b), some (.ref a)] (by decide) (Nat.le_of_ble_eq_true rfl) rfl ?_
  refine r_aload1 (pc := 0) dX0_takeFrom_0 ?_
  refine r_aload0 (pc := 1) dX0_takeFrom_1 ?_
  refine r_getf (pc := 2) fl_X0_12 dX0_takeFrom_2 (bget0 rfl) rfl ?_
  refine r_callS2v (pc := 5) lk_X0_92 dX0_takeFrom_5 hcp (by decide) (Nat.le_of_ble_eq_true rfl) ⟨Nat.zero_le _, Nat.zero_le _⟩ ?_
  refine r_aload0 (pc := 8) dX0_takeFrom_8 ?_
  refine r_callV0w (pc := 9) lk_X0_72 dX0_takeFrom_9 (bget0 rfl) (s_measure (n := zn z) (m := zs z) hI2.1.1 hI2.1.2.1 hn.1 hn.2.1 hn.2.2.1 hn.2.2.2)  (by decide) (Nat.le_of_ble_eq_true rfl) ⟨Nat.zero_le _, Nat.zero_le _⟩ (fun M9 h9 => ?_)
  obtain ⟨S2, hM, hR, hF, rfl⟩ := h9
  refine r_aload0 (pc := 12) dX0_takeFrom_12 ?_
  have hW : InvW S2 z := MS.toW hM hR hn hI2 (hF.2 6 (by decide)) (fun j hj => by
    rw [hF.1 (2 + j) (by omega)]
    match j, hj with
    | 0, _ => rfl
    | 1, _ => rfl
    | 2, _ => rfl
    | 3, _ => rfl
    | 4, _ => rfl
    | 5, _ => rfl)
  refine r_callV0w (pc := 13) lk_X0_89 dX0_takeFrom_13 (bget0 rfl) (s_markPlaces hW hZ)  (by decide) (Nat.le_of_ble_eq_true rfl) ⟨Nat.zero_le _, Nat.zero_le _⟩ (fun M9 h9 => ?_)
  obtain ⟨S3, hI3, rfl⟩ := h9
  exact p_return (pc := 16) false rfl rfl dX0_takeFrom_16 (Nat.zero_le _) (Nat.zero_le _) (Or.inl rfl) ⟨rfl, S3, hI3, rfl⟩
end START

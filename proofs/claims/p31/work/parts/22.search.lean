
def offZ (o : Option (Nat × Int)) (n : Nat) (g : Int) : Option (Nat × Int) := match o with
  | none => some (n, g)
  | some q => if q.2 < g then some (n, g) else some q
def bN (o : Option (Nat × Int)) : Int32 := match o with
  | none => -1
  | some q => nI q.1
def bG (o : Option (Nat × Int)) : Int := match o with
  | none => 0
  | some q => q.2
def SB (S : BS) (o : Option (Nat × Int)) : Prop := S.1 7 = bN o ∧ S.1 8 = iI (bG o)
def okO (o : Option (Nat × Int)) : Prop := ∀ q, o = some q → q.1 < 30000 ∧ -100000 ≤ q.2 ∧ q.2 ≤ 100000
theorem okO_none : okO none := fun q h => by cases h
theorem okO_off {o : Option (Nat × Int)} {n : Nat} {g : Int} (h : okO o) (hn : n < 30000) (h1 : -100000 ≤ g) (h2 : g ≤ 100000) : okO (offZ o n g) := by
  intro q hq
  unfold offZ at hq
  split at hq
  · cases hq; exact ⟨hn, h1, h2⟩
  · split at hq
    · cases hq; exact ⟨hn, h1, h2⟩
    · exact h q hq
def RS (S : BS) (z : ZS) (i : Nat) : Prop := ∀ k, k < i → S.2 14 k = nI (zH z k) ∧ S.2 15 k = nI (zG z (zF z k)) ∧ S.2 16 k = nI (zG z (zO z k)) ∧ S.2 17 k = nI (ha z (zT z k)) ∧ S.2 18 k = nI (hb z (zT z k)) ∧ S.2 19 k = iI (er z k)
def swF (z : ZS) (j : Nat) (o : Option (Nat × Int)) : Nat → Option (Nat × Int)
  | 0 => o
  | n + 1 => if j < n ∧ zH z n = 0 then offZ (swF z j o n) (10000 + 100 * j + n) (sgZ z j n) else swF z j o n
def tuF (z : ZS) : Nat → Option (Nat × Int)
  | 0 => none
  | n + 1 => if zH z n = 0 then offZ (tuF z n) n (tgZ z n) else tuF z n
def swA (z : ZS) (o : Option (Nat × Int)) : Nat → Option (Nat × Int)
  | 0 => o
  | n + 1 => if zH z n = 0 then swF z n (swA z o n) (zt z) else swA z o n
def flF (z : ZS) (o : Option (Nat × Int)) : Nat → Option (Nat × Int)
  | 0 => o
  | n + 1 => match part z n with
    | none => flF z o n
    | some l => if zH z n = 0 ∧ zH z l = 0 then offZ (flF z o n) (20000 + zF z n) (fgZ z n l) else flF z o n
def bestZ (z : ZS) : Option (Nat × Int) := flF z (swA z (tuF z (zt z)) (zt z)) (zt z)
theorem swF_start {z : ZS} {j : Nat} {o : Option (Nat × Int)} : ∀ n, n ≤ j + 1 → swF z j o n = o
  | 0, _ => rfl
  | n + 1, h => by unfold swF; rw [if_neg (by omega)]; exact swF_start n (by omega)
theorem tg_b {z : ZS} (h : ZOK z) {k : Nat} (hk : k < zt z) : -100000 ≤ tgZ z k ∧ tgZ z k ≤ 100000 := by
  have h1 := h.erB hk
  have h2 := h.ekB (u := 1 - zU z k) hk
  unfold tgZ; omega
theorem sg_b {z : ZS} (h : ZOK z) {j k : Nat} (hj : j < zt z) (hk : k < zt z) : -100000 ≤ sgZ z j k ∧ sgZ z j k ≤ 100000 := by
  have h1 := h.erB hk
  have h2 := h.erB hj
  have h3 := h.lwB (h.fq hj) (h.oq hj) (h.t hk)
  have h4 := h.lwB (h.fq hk) (h.oq hk) (h.t hj)
  unfold sgZ; omega
theorem fg_b {z : ZS} (h : ZOK z) {k l : Nat} (hk : k < zt z) (hp : part z k = some l) : -100000 ≤ fgZ z k l ∧ fgZ z k l ≤ 100000 := by
  have hl := part_lt h hp
  obtain ⟨e1, e2, e3, -⟩ := part_geo h hk hp
  have h1 := h.erB hk
  have h2 := h.erB hl
  have h3 := h.lwB (h.fq hk) (h.fq hl) (h.t hk)
  have h4 := h.lwB (h.oq hk) (h.oq hl) (h.t hl)
  unfold fgZ
  rw [e2, e3, e1]
  omega
theorem swF_ok {z : ZS} (h : ZOK z) {j : Nat} (hj : j < zt z) {o : Option (Nat × Int)} (ho : okO o) : ∀ n, n ≤ zt z → okO (swF z j o n)
  | 0, _ => ho
  | n + 1, hn => by
    have hd := h.dims
    have hb := sg_b h hj (show n < zt z by omega)
    unfold swF
    split
    · exact okO_off (swF_ok h hj ho n (by omega)) (by omega) hb.1 hb.2
    · exact swF_ok h hj ho n (by omega)
theorem tuF_ok {z : ZS} (h : ZOK z) : ∀ n, n ≤ zt z → okO (tuF z n)
  | 0, _ => okO_none
  | n + 1, hn => by
    have hd := h.dims
    have hb := tg_b h (show n < zt z by omega)
    unfold tuF
    split
    · exact okO_off (tuF_ok h n (by omega)) (by omega) hb.1 hb.2
    · exact tuF_ok h n (by omega)
theorem swA_ok {z : ZS} (h : ZOK z) {o : Option (Nat × Int)} (ho : okO o) : ∀ n, n ≤ zt z → okO (swA z o n)
  | 0, _ => ho
  | n + 1, hn => by
    unfold swA
    split
    · exact swF_ok h (by omega) (swA_ok h ho n (by omega)) _ (Nat.le_refl _)
    · exact swA_ok h ho n (by omega)
theorem flF_ok {z : ZS} (h : ZOK z) {o : Option (Nat × Int)} (ho : okO o) : ∀ n, n ≤ zt z → okO (flF z o n)
  | 0, _ => ho
  | n + 1, hn => by
    have hd := h.dims
    have hq := h.fq (show n < zt z by omega)
    unfold flF
    split
    · exact flF_ok h ho n (by omega)
    · rename_i l hp
      have hb := fg_b h (show n < zt z by omega) hp
      split
      · exact okO_off (flF_ok h ho n (by omega)) (by omega) hb.1 hb.2
      · exact flF_ok h ho n (by omega)
theorem bestZ_ok {z : ZS} (h : ZOK z) : okO (bestZ z) := flF_ok h (swA_ok h (tuF_ok h _ (Nat.le_refl _)) _ (Nat.le_refl _)) _ (Nat.le_refl _)
def SQ (M : Mem) (b : Nat) (z : ZS) (o : Option (Nat × Int)) : Mem → Prop := fun Mf => ∃ S', InvB S' z ∧ RS S' z (zt z) ∧ SB S' o ∧ Mf = bset M b S'
theorem InvB.cg {S : BS} {z : ZS} (h : InvB S z) (v w : Int32) : InvB (ii (ii S 7 v) 8 w) z :=
  InvB_congr (S := S) (S' := ii (ii S 7 v) 8 w) (fun i hi => by show (if i = 8 then w else if i = 7 then v else S.1 i) = S.1 i; rw [if_neg (by omega), if_neg (by omega)]) (fun _ _ => rfl) h
section SEARCH
variable {M : Mem} {b : Nat} {S : BS} {z : ZS}
set_option maxRecDepth 20000 in
theorem s_offer {o : Option (Nat × Int)} (hI : InvB S z) (hR : RS S z (zt z)) (hB : SB S o) (ho : okO o) {n : Nat} {g : Int} (hn : n < 30000) (h1 : -100000 ≤ g) (h2 : g ≤ 100000) : SpecP mX3_offer 1 0 0 [.ref (b + 13), .int (nI n), .int (iI g)] (bset M b S) (tP none (SQ M b z (offZ o n g))) := by
  refine Spec_of [some (.ref (b + 13)), some (.int (nI n)), some (.int (iI g))] (by decide) (Nat.le_of_ble_eq_true rfl) rfl ?_
  have take : offZ o n g = some (n, g) →
    G mX3_offer 1 (.inl false) 0 0 (tP none (SQ M b z (offZ o n g))) none 0 0 16 [some (.ref (b + 13)), some (.int (nI n)), some (.int (iI g))] [] (bset M b S)
    := by
    intro e
    refine r_aload0 (pc := 16) dX3_offer_16 ?_
    refine r_iload1 (pc := 17) dX3_offer_17 ?_
    refine r_putfI (pc := 18) fl_X3_30 dX3_offer_18 (bget rfl) (Nat.le_of_ble_eq_true rfl) ?_
    refine G_M bii_X3_0 ?_
    refine r_aload0 (pc := 21) dX3_offer_21 ?_
    refine r_iload2 (pc := 22) dX3_offer_22 ?_
    refine r_putfI (pc := 23) fl_X3_34 dX3_offer_23 (bget rfl) (Nat.le_of_ble_eq_true rfl) ?_
    refine G_M bii_X3_1 ?_
    exact p_return (pc := 26) false rfl rfl dX3_offer_26 (Nat.zero_le _) (Nat.zero_le _) (Or.inl rfl) ⟨rfl, _, hI.cg _ _, hR, by rw [e]; exact ⟨rfl, rfl⟩, rfl⟩
  refine r_aload0 (pc := 0) dX3_offer_0 ?_
  refine r_getf (pc := 1) fl_X3_30 dX3_offer_1 (bget rfl) rfl ?_
  rw [hB.1]
  refine r_iconst_m1 (pc := 4) dX3_offer_4 ?_
  cases o with
  | none =>
    exact r_icmp_eq (pc := 5) 16 (by decide) dX3_offer_5 (fun _ => take rfl) (fun h9 => absurd rfl h9)
  | some q =>
    obtain ⟨q1, q2, q3⟩ := ho q rfl
    refine r_icmp_eq (pc := 5) 16 (by decide) dX3_offer_5 (fun h9 => absurd h9 (nI_ne_m1 (by omega))) (fun _ => ?_)
    refine r_iload2 (pc := 8) dX3_offer_8 ?_
    refine r_aload0 (pc := 9) dX3_offer_9 ?_
    refine r_getf (pc := 10) fl_X3_34 dX3_offer_10 (bget rfl) rfl ?_
    rw [hB.2]
    refine z_icmp_le (pc := 13) 26 (by decide) dX3_offer_13 (by omega) (by omega) (show -2147483648 ≤ q.2 by omega) (show q.2 < 2147483648 by omega) (fun h9 => ?_) (fun h9 => take (by show (if q.2 < g then _ else _) = _; rw [if_pos (show q.2 < g from h9)]))
    have e : offZ (some q) n g = some q := by show (if q.2 < g then _ else _) = _; rw [if_neg (show ¬ q.2 < g from Int.not_lt.mpr h9)]
    exact p_return (pc := 26) false rfl rfl dX3_offer_26 (Nat.zero_le _) (Nat.zero_le _) (Or.inl rfl) ⟨rfl, S, hI, hR, by rw [e]; exact hB, rfl⟩
set_option maxRecDepth 20000 in
theorem s_fillRows (hI : InvB S z) (hZ : ZOK z) {v w : Int32} (hv : S.1 7 = v) (hw : S.1 8 = w) : SpecP mX3_fillRows 3 0 0 [.ref (b + 13), .ref b] (bset M b S) (tP none (fun Mf => ∃ S', InvB S' z ∧ RS S' z (zt z) ∧ S'.1 7 = v ∧ S'.1 8 = w ∧ Mf = bset M b S')) := by
  have hd := hZ.dims
  refine Spec_of [some (.ref (b + 13)), some (.ref b), none, none, none] (by decide) (Nat.le_of_ble_eq_true rfl) rfl ?_
  refine r_aload1 (pc := 0) dX3_fillRows_0 ?_
  refine r_getf (pc := 1) fl_X3_64 dX3_fillRows_1 (bget0 rfl) rfl ?_
  refine r_astore2 (pc := 4) dX3_fillRows_4 rfl ?_
  refine n_iconst_0 (pc := 5) dX3_fillRows_5 ?_
  refine r_istore3 (pc := 6) dX3_fillRows_6 rfl ?_
  refine up_to (N := zt z) (k := 0) (fun i => ∀ S a4, InvB S z → RS S z i → S.1 7 = v → S.1 8 = w →
    G mX3_fillRows 3 (.inl false) 0 0 (tP none (fun Mf => ∃ S', InvB S' z ∧ RS S' z (zt z) ∧ S'.1 7 = v ∧ S'.1 8 = w ∧ Mf = bset M b S')) none 0 0 7 [some (.ref (b + 13)), some (.ref b), some (.ref (b + 1)), some (.int (nI i)), a4] [] (bset M b S)
    ) (fun S a4 hI hR hv hw => ?_) (fun i hi ih S a4 hI hR hv hw => ?_) (Nat.zero_le _) S none hI (fun k hk => absurd hk (by omega)) hv hw
  · have hc3 := hI.c3
    refine r_iload3 (pc := 7) dX3_fillRows_7 ?_
    refine r_aload1 (pc := 8) dX3_fillRows_8 ?_
    refine r_getf (pc := 9) fl_X3_41 dX3_fillRows_9 (bget0 rfl) rfl ?_
    rw [hc3]
    refine n_icmp_ge (pc := 12) 148 (by decide) dX3_fillRows_12 (by omega) (by omega) (fun hc12 => ?_) (fun hc12 => absurd hc12 (by omega))
    exact p_return (pc := 148) false rfl rfl dX3_fillRows_148 (Nat.zero_le _) (Nat.zero_le _) (Or.inl rfl) ⟨rfl, S, hI, hR, hv, hw, rfl⟩
  · have hc3 := hI.c3
    have hf := hZ.fo hi
    have ht := hZ.t hi
    have hu := hZ.u hi
    refine G_fgt 4 ?_
    refine r_iload3 (pc := 7) dX3_fillRows_7 ?_
    refine r_aload1 (pc := 8) dX3_fillRows_8 ?_
    refine r_getf (pc := 9) fl_X3_41 dX3_fillRows_9 (bget0 rfl) rfl ?_
    rw [hc3]
    refine n_icmp_ge (pc := 12) 148 (by decide) dX3_fillRows_12 (by omega) (by omega) (fun hc12 => absurd hc12 (by omega)) (fun hc12 => ?_)
    refine r_aload2 (pc := 15) dX3_fillRows_15 ?_
    refine r_getf (pc := 16) fl_X3_81 dX3_fillRows_16 (bget rfl) rfl ?_
    refine r_iload3 (pc := 19) dX3_fillRows_19 ?_
    refine r_callN2i (pc := 20) lk_X3_73 dX3_fillRows_20 (s_at (bget rfl) (by omega) (by decide) (hI.T hi)) (by decide) (Nat.le_of_ble_eq_true rfl) ⟨Nat.zero_le _, Nat.zero_le _⟩ ?_
    refine r_istore4 (pc := 23) dX3_fillRows_23 rfl ?_
    refine r_aload0 (pc := 25) dX3_fillRows_25 ?_
    refine r_getf (pc := 26) fl_X3_9 dX3_fillRows_26 (bget rfl) rfl ?_
    refine r_iload3 (pc := 29) dX3_fillRows_29 ?_
    refine r_aload2 (pc := 30) dX3_fillRows_30 ?_
    refine r_getf (pc := 31) fl_X3_84 dX3_fillRows_31 (bget rfl) rfl ?_
    refine r_iload3 (pc := 34) dX3_fillRows_34 ?_
    refine r_callN2i (pc := 35) lk_X3_73 dX3_fillRows_35 (s_at (bget rfl) (by omega) (by decide) (hI.H hi)) (by decide) (Nat.le_of_ble_eq_true rfl) ⟨Nat.zero_le _, Nat.zero_le _⟩ ?_
    refine r_callN3v (pc := 38) lk_X3_85 dX3_fillRows_38 (s_putB (j := 14) (by decide) rfl (fun _ => rfl) (by omega) (by decide)) (by decide) (Nat.le_of_ble_eq_true rfl) ⟨Nat.zero_le _, Nat.zero_le _⟩ ?_
    have hI1 := hI.scr (j := 14) (by decide) (upd (S.2 14) i (nI (zH z i)))
    refine r_aload0 (pc := 41) dX3_fillRows_41 ?_
    refine r_getf (pc := 42) fl_X3_15 dX3_fillRows_42 (bget rfl) rfl ?_
    refine r_iload3 (pc := 45) dX3_fillRows_45 ?_
    refine r_aload2 (pc := 46) dX3_fillRows_46 ?_
    refine r_getf (pc := 47) fl_X3_89 dX3_fillRows_47 (bget rfl) rfl ?_
    refine r_aload2 (pc := 50) dX3_fillRows_50 ?_
    refine r_getf (pc := 51) fl_X3_68 dX3_fillRows_51 (bget rfl) rfl ?_
    refine r_iload3 (pc := 54) dX3_fillRows_54 ?_
    refine r_callN2i (pc := 55) lk_X3_73 dX3_fillRows_55 (s_at (bget rfl) (by omega) (by decide) (hI1.F hi)) (by decide) (Nat.le_of_ble_eq_true rfl) ⟨Nat.zero_le _, Nat.zero_le _⟩ ?_
    refine r_callN2i (pc := 58) lk_X3_73 dX3_fillRows_58 (s_at (bget rfl) (by omega) (by decide) (hI1.G (by omega))) (by decide) (Nat.le_of_ble_eq_true rfl) ⟨Nat.zero_le _, Nat.zero_le _⟩ ?_
    refine r_callN3v (pc := 61) lk_X3_85 dX3_fillRows_61 (s_putB (j := 15) (by decide) rfl (fun _ => rfl) (by omega) (by decide)) (by decide) (Nat.le_of_ble_eq_true rfl) ⟨Nat.zero_le _, Nat.zero_le _⟩ ?_
    have hI2 := hI1.scr (j := 15) (by decide) (upd (S.2 15) i (nI (zG z (zF z i))))
    refine r_aload0 (pc := 64) dX3_fillRows_64 ?_
    refine r_getf (pc := 65) fl_X3_18 dX3_fillRows_65 (bget rfl) rfl ?_
    refine r_iload3 (pc := 68) dX3_fillRows_68 ?_
    refine r_aload2 (pc := 69) dX3_fillRows_69 ?_
    refine r_getf (pc := 70) fl_X3_89 dX3_fillRows_70 (bget rfl) rfl ?_
    refine r_aload2 (pc := 73) dX3_fillRows_73 ?_
    refine r_getf (pc := 74) fl_X3_92 dX3_fillRows_74 (bget rfl) rfl ?_
    refine r_iload3 (pc := 77) dX3_fillRows_77 ?_
    refine r_callN2i (pc := 78) lk_X3_73 dX3_fillRows_78 (s_at (bget rfl) (by omega) (by decide) (hI2.O hi)) (by decide) (Nat.le_of_ble_eq_true rfl) ⟨Nat.zero_le _, Nat.zero_le _⟩ ?_
    refine r_callN2i (pc := 81) lk_X3_73 dX3_fillRows_81 (s_at (bget rfl) (by omega) (by decide) (hI2.G (by omega))) (by decide) (Nat.le_of_ble_eq_true rfl) ⟨Nat.zero_le _, Nat.zero_le _⟩ ?_
    refine r_callN3v (pc := 84) lk_X3_85 dX3_fillRows_84 (s_putB (j := 16) (by decide) rfl (fun _ => rfl) (by omega) (by decide)) (by decide) (Nat.le_of_ble_eq_true rfl) ⟨Nat.zero_le _, Nat.zero_le _⟩ ?_
    have hI3 := hI2.scr (j := 16) (by decide) (upd (S.2 16) i (nI (zG z (zO z i))))
    refine r_aload0 (pc := 87) dX3_fillRows_87 ?_
    refine r_getf (pc := 88) fl_X3_21 dX3_fillRows_88 (bget rfl) rfl ?_
    refine r_iload3 (pc := 91) dX3_fillRows_91 ?_
    refine r_aload1 (pc := 92) dX3_fillRows_92 ?_
    refine r_getf (pc := 93) fl_X3_95 dX3_fillRows_93 (bget0 rfl) rfl ?_
    refine r_iload4 (pc := 96) dX3_fillRows_96 ?_
    refine r_callN2i (pc := 98) lk_X3_73 dX3_fillRows_98 (s_at (bget rfl) (by omega) (by decide) (hI3.A ht)) (by decide) (Nat.le_of_ble_eq_true rfl) ⟨Nat.zero_le _, Nat.zero_le _⟩ ?_
    refine r_callN3v (pc := 101) lk_X3_85 dX3_fillRows_101 (s_putB (j := 17) (by decide) rfl (fun _ => rfl) (by omega) (by decide)) (by decide) (Nat.le_of_ble_eq_true rfl) ⟨Nat.zero_le _, Nat.zero_le _⟩ ?_
    have hI4 := hI3.scr (j := 17) (by decide) (upd (S.2 17) i (nI (ha z (zT z i))))
    refine r_aload0 (pc := 104) dX3_fillRows_104 ?_
    refine r_getf (pc := 105) fl_X3_24 dX3_fillRows_105 (bget rfl) rfl ?_
    refine r_iload3 (pc := 108) dX3_fillRows_108 ?_
    refine r_aload1 (pc := 109) dX3_fillRows_109 ?_
    refine r_getf (pc := 110) fl_X3_98 dX3_fillRows_110 (bget0 rfl) rfl ?_
    refine r_iload4 (pc := 113) dX3_fillRows_113 ?_
    refine r_callN2i (pc := 115) lk_X3_73 dX3_fillRows_115 (s_at (bget rfl) (by omega) (by decide) (hI4.B ht)) (by decide) (Nat.le_of_ble_eq_true rfl) ⟨Nat.zero_le _, Nat.zero_le _⟩ ?_
    refine r_callN3v (pc := 118) lk_X3_85 dX3_fillRows_118 (s_putB (j := 18) (by decide) rfl (fun _ => rfl) (by omega) (by decide)) (by decide) (Nat.le_of_ble_eq_true rfl) ⟨Nat.zero_le _, Nat.zero_le _⟩ ?_
    have hI5 := hI4.scr (j := 18) (by decide) (upd (S.2 18) i (nI (hb z (zT z i))))
    refine r_aload0 (pc := 121) dX3_fillRows_121 ?_
    refine r_getf (pc := 122) fl_X3_27 dX3_fillRows_122 (bget rfl) rfl ?_
    refine r_iload3 (pc := 125) dX3_fillRows_125 ?_
    refine r_aload1 (pc := 126) dX3_fillRows_126 ?_
    refine r_iload3 (pc := 127) dX3_fillRows_127 ?_
    refine r_aload2 (pc := 128) dX3_fillRows_128 ?_
    refine r_getf (pc := 129) fl_X3_101 dX3_fillRows_129 (bget rfl) rfl ?_
    refine r_iload3 (pc := 132) dX3_fillRows_132 ?_
    refine r_callN2i (pc := 133) lk_X3_73 dX3_fillRows_133 (s_at (bget rfl) (by omega) (by decide) (hI5.U hi)) (by decide) (Nat.le_of_ble_eq_true rfl) ⟨Nat.zero_le _, Nat.zero_le _⟩ ?_
    refine r_callV2i (pc := 136) lk_X3_104 dX3_fillRows_136 (bget0 rfl) (s_errorLaid hI5 hZ hi (by omega)) (by decide) (Nat.le_of_ble_eq_true rfl) ⟨Nat.zero_le _, Nat.zero_le _⟩ ?_
    refine r_callN3v (pc := 139) lk_X3_85 dX3_fillRows_139 (s_putB (j := 19) (by decide) rfl (fun _ => rfl) (by omega) (by decide)) (by decide) (Nat.le_of_ble_eq_true rfl) ⟨Nat.zero_le _, Nat.zero_le _⟩ ?_
    refine n_iinc3 (pc := 142) dX3_fillRows_142 rfl ?_
    refine r_goto (pc := 145) 7 (by decide) dX3_fillRows_145 ?_
    refine ih _ _ (hI5.scr (j := 19) (by decide) _) (fun k hk => ?_) hv hw
    show upd (S.2 14) i (nI (zH z i)) k = _ ∧ upd (S.2 15) i (nI (zG z (zF z i))) k = _ ∧ upd (S.2 16) i (nI (zG z (zO z i))) k = _ ∧ upd (S.2 17) i (nI (ha z (zT z i))) k = _ ∧ upd (S.2 18) i (nI (hb z (zT z i))) k = _ ∧ upd (S.2 19) i (iI (ek z i (zU z i))) k = _
    by_cases e : k = i
    · subst e
      rw [upd_same, upd_same, upd_same, upd_same, upd_same, upd_same]; exact ⟨rfl, rfl, rfl, rfl, rfl, rfl⟩
    · rw [upd_ne e, upd_ne e, upd_ne e, upd_ne e, upd_ne e, upd_ne e]; exact hR k (by omega)
end SEARCH

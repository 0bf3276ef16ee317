def ZOW (z : ZS) : Prop := (2 ≤ zn z ∧ zn z ≤ 6 ∧ 1 ≤ zs z ∧ zs z ≤ 2) ∧ (∀ s, s < zq z → zG z s ≤ 99) ∧ (∀ k, k < zt z → zF z k < zq z ∧ zO z k < zq z) ∧ (∀ k, k < zt z → zT z k < zt z)
theorem ZOW.dims {z : ZS} (h : ZOW z) : zc z ≤ 8 ∧ 4 ≤ zc z ∧ zr z ≤ 14 ∧ 3 ≤ zr z ∧ zq z ≤ 112 ∧ zt z ≤ 56 ∧ 6 ≤ zt z ∧ zq z = 2 * zt z := by
  obtain ⟨⟨h1, h2, h3, h4⟩, -⟩ := h
  have e1 : zn z = 2 ∨ zn z = 3 ∨ zn z = 4 ∨ zn z = 5 ∨ zn z = 6 := by omega
  have e2 : zs z = 1 ∨ zs z = 2 := by omega
  rcases e1 with e | e | e | e | e <;> rcases e2 with f | f <;> (unfold zt zq zr zc; rw [e, f]; decide)
theorem ZOW.ekB {z : ZS} (h : ZOW z) {k u : Nat} (hk : k < zt z) : 0 ≤ ek z k u ∧ ek z k u ≤ 19602 := by
  have hd := h.dims
  have g1 := h.2.1 _ (h.2.2.1 k hk).1
  have g2 := h.2.1 _ (h.2.2.1 k hk).2
  have ht := h.2.2.2 k hk
  have hp := pl_le h.1.1 h.1.2.1 (show zT z k < 56 by omega)
  have g3 : ha z (zT z k) ≤ 99 := sh_le h.1.1 hp.1
  have g4 : hb z (zT z k) ≤ 99 := sh_le h.1.1 hp.2
  have a1 := sqd_le g1 g3
  have a2 := sqd_le g1 g4
  have a3 := sqd_le g2 g3
  have a4 := sqd_le g2 g4
  unfold ek e4
  split <;> omega
theorem InvW.G {S : BS} {z : ZS} (h : InvW S z) {k : Nat} (hk : k < zq z) : S.2 2 k = nI (zG z k) := h.2.1 k hk
theorem InvW.T {S : BS} {z : ZS} (h : InvW S z) {k : Nat} (hk : k < zt z) : S.2 5 k = nI (zT z k) := h.2.2.2.2.1 k hk
theorem InvW.U {S : BS} {z : ZS} (h : InvW S z) {k : Nat} (hk : k < zt z) : S.2 6 k = nI (zU z k) := h.2.2.2.2.2.1 k hk
theorem InvW.H {S : BS} {z : ZS} (h : InvW S z) {k : Nat} (hk : k < zt z) : S.2 7 k = nI (zH z k) := h.2.2.2.2.2.2.1 k hk
theorem InvW.A {S : BS} {z : ZS} (h : InvW S z) {k : Nat} (hk : k < zt z) : S.2 10 k = nI (ha z k) := h.2.2.2.2.2.2.2.2.2.1 k hk
theorem InvW.B {S : BS} {z : ZS} (h : InvW S z) {k : Nat} (hk : k < zt z) : S.2 11 k = nI (hb z k) := h.2.2.2.2.2.2.2.2.2.2 k hk
theorem InvW.setU {S : BS} {z : ZS} {g : Nat → Nat} {f : Nat → Int32} (h : InvW S z) (hf : ∀ s, s < zt z → f s = nI (g s)) : InvW (ia S 6 f) (zset z 4 g) := ⟨h.1, h.2.1, h.2.2.1, h.2.2.2.1, h.2.2.2.2.1, hf, h.2.2.2.2.2.2⟩
theorem InvW.setF {S : BS} {z : ZS} {g : Nat → Nat} {f : Nat → Int32} (h : InvW S z) (hf : ∀ s, s < zt z → f s = nI (g s)) : InvW (ia S 3 f) (zset z 1 g) := ⟨h.1, h.2.1, hf, h.2.2.2⟩
theorem InvW.setO {S : BS} {z : ZS} {g : Nat → Nat} {f : Nat → Int32} (h : InvW S z) (hf : ∀ s, s < zt z → f s = nI (g s)) : InvW (ia S 4 f) (zset z 2 g) := ⟨h.1, h.2.1, h.2.2.1, hf, h.2.2.2.2⟩
theorem InvW.setT {S : BS} {z : ZS} {g : Nat → Nat} {f : Nat → Int32} (h : InvW S z) (hf : ∀ s, s < zt z → f s = nI (g s)) : InvW (ia S 5 f) (zset z 3 g) := ⟨h.1, h.2.1, h.2.2.1, h.2.2.2.1, hf, h.2.2.2.2.2⟩
theorem InvW.setH {S : BS} {z : ZS} {g : Nat → Nat} {f : Nat → Int32} (h : InvW S z) (hf : ∀ s, s < zt z → f s = nI (g s)) : InvW (ia S 7 f) (zset z 5 g) := ⟨h.1, h.2.1, h.2.2.1, h.2.2.2.1, h.2.2.2.2.1, h.2.2.2.2.2.1, hf, h.2.2.2.2.2.2.2⟩
theorem upd_exR {f : Nat → Int32} {g : Nat → Nat} {n i j : Nat} (h : ∀ s, s < n → f s = nI (g s)) (hi : i < n) (hj : j < n) : ∀ s, s < n → upd (upd f i (f j)) j (f i) s = nI (exR g i j s) := upd_ups (upd_ups h (h j hj)) (h i hi)
def tW (r : Option Value) (M : Mem) (b : Nat) (z : ZS) : TG := tP r (fun Mf => ∃ S', InvW S' z ∧ Mf = bset M b S')
theorem layW_ow {z : ZS} (h : ZOW z) (k : Nat) : ZOW (layW z k) := h
theorem exZ_ow {z : ZS} (h : ZOW z) {i j : Nat} (hi : i < zt z) (hj : j < zt z) : ZOW (exZ z i j) := by
  refine ⟨h.1, h.2.1, fun k hk => ?_, fun k hk => ?_⟩
  · rw [exZ_F, exZ_O]; exact h.2.2.1 _ (sw_lt hi hj hk)
  · rw [exZ_T]; exact h.2.2.2 _ (sw_lt hi hj hk)
section FLIP
variable {M : Mem} {b : Nat} {S : BS} {z : ZS}
set_option maxRecDepth 20000 in
theorem s_errorLaidW (hI : InvW S z) (hZ : ZOW z) {k u : Nat} (hk : k < zt z) (hu : u < 2147483648) : Spec mX0_errorLaid 2 0 0 [.ref b, .int (nI k), .int (nI u)] (bset M b S) (some (.int (iI (ek z k u)))) (bset M b S) := by
  have hd := hZ.dims
  have hf := hZ.2.2.1 k hk
  have ht := hZ.2.2.2 k hk
  refine Spec_of [some (.ref b), some (.int (nI k)), some (.int (nI u)), none, none, none, none, none] (by decide) (Nat.le_of_ble_eq_true rfl) rfl ?_
  refine r_aload0 (pc := 0) dX0_errorLaid_0 ?_
  refine r_getf (pc := 1) fl_X0_12 dX0_errorLaid_1 (bget0 rfl) rfl ?_
  refine r_getf (pc := 4) fl_X0_82 dX0_errorLaid_4 (bget rfl) rfl ?_
  refine r_iload1 (pc := 7) dX0_errorLaid_7 ?_
  refine r_callN2i (pc := 8) lk_X0_115 dX0_errorLaid_8 (s_at (bget rfl) (by omega) (by decide) (hI.T hk)) (by decide) (Nat.le_of_ble_eq_true rfl) ⟨Nat.zero_le _, Nat.zero_le _⟩ ?_
  refine r_istore3 (pc := 11) dX0_errorLaid_11 rfl ?_
  refine r_aload0 (pc := 12) dX0_errorLaid_12 ?_
  refine r_getf (pc := 13) fl_X0_12 dX0_errorLaid_13 (bget0 rfl) rfl ?_
  refine r_getf (pc := 16) fl_X0_57 dX0_errorLaid_16 (bget rfl) rfl ?_
  refine r_aload0 (pc := 19) dX0_errorLaid_19 ?_
  refine r_getf (pc := 20) fl_X0_12 dX0_errorLaid_20 (bget0 rfl) rfl ?_
  refine r_getf (pc := 23) fl_X0_109 dX0_errorLaid_23 (bget rfl) rfl ?_
  refine r_iload1 (pc := 26) dX0_errorLaid_26 ?_
  refine r_callN2i (pc := 27) lk_X0_115 dX0_errorLaid_27 (s_at (bget rfl) (by omega) (by decide) (hI.F hk)) (by decide) (Nat.le_of_ble_eq_true rfl) ⟨Nat.zero_le _, Nat.zero_le _⟩ ?_
  refine r_callN2i (pc := 30) lk_X0_115 dX0_errorLaid_30 (s_at (bget rfl) (by omega) (by decide) (hI.G (by omega))) (by decide) (Nat.le_of_ble_eq_true rfl) ⟨Nat.zero_le _, Nat.zero_le _⟩ ?_
  refine r_istore4 (pc := 33) dX0_errorLaid_33 rfl ?_
  refine r_aload0 (pc := 35) dX0_errorLaid_35 ?_
  refine r_getf (pc := 36) fl_X0_12 dX0_errorLaid_36 (bget0 rfl) rfl ?_
  refine r_getf (pc := 39) fl_X0_57 dX0_errorLaid_39 (bget rfl) rfl ?_
  refine r_aload0 (pc := 42) dX0_errorLaid_42 ?_
  refine r_getf (pc := 43) fl_X0_12 dX0_errorLaid_43 (bget0 rfl) rfl ?_
  refine r_getf (pc := 46) fl_X0_112 dX0_errorLaid_46 (bget rfl) rfl ?_
  refine r_iload1 (pc := 49) dX0_errorLaid_49 ?_
  refine r_callN2i (pc := 50) lk_X0_115 dX0_errorLaid_50 (s_at (bget rfl) (by omega) (by decide) (hI.O hk)) (by decide) (Nat.le_of_ble_eq_true rfl) ⟨Nat.zero_le _, Nat.zero_le _⟩ ?_
  refine r_callN2i (pc := 53) lk_X0_115 dX0_errorLaid_53 (s_at (bget rfl) (by omega) (by decide) (hI.G (by omega))) (by decide) (Nat.le_of_ble_eq_true rfl) ⟨Nat.zero_le _, Nat.zero_le _⟩ ?_
  refine r_istore5 (pc := 56) dX0_errorLaid_56 rfl ?_
  refine r_aload0 (pc := 58) dX0_errorLaid_58 ?_
  refine r_getf (pc := 59) fl_X0_25 dX0_errorLaid_59 (bget0 rfl) rfl ?_
  refine r_iload3 (pc := 62) dX0_errorLaid_62 ?_
  refine r_callN2i (pc := 63) lk_X0_115 dX0_errorLaid_63 (s_at (bget rfl) (by omega) (by decide) (hI.A ht)) (by decide) (Nat.le_of_ble_eq_true rfl) ⟨Nat.zero_le _, Nat.zero_le _⟩ ?_
  refine r_istore6 (pc := 66) dX0_errorLaid_66 rfl ?_
  refine r_aload0 (pc := 68) dX0_errorLaid_68 ?_
  refine r_getf (pc := 69) fl_X0_28 dX0_errorLaid_69 (bget0 rfl) rfl ?_
  refine r_iload3 (pc := 72) dX0_errorLaid_72 ?_
  refine r_callN2i (pc := 73) lk_X0_115 dX0_errorLaid_73 (s_at (bget rfl) (by omega) (by decide) (hI.B ht)) (by decide) (Nat.le_of_ble_eq_true rfl) ⟨Nat.zero_le _, Nat.zero_le _⟩ ?_
  refine r_istore7 (pc := 76) dX0_errorLaid_76 rfl ?_
  refine r_iload2 (pc := 78) dX0_errorLaid_78 ?_
  refine n_if_ne (pc := 79) 96 (by decide) dX0_errorLaid_79 (by omega) (fun hc79 => ?_) (fun hc79 => ?_)
  · refine r_iload4 (pc := 96) dX0_errorLaid_96 ?_
    refine r_iload5 (pc := 98) dX0_errorLaid_98 ?_
    refine r_iload7 (pc := 100) dX0_errorLaid_100 ?_
    refine r_iload6 (pc := 102) dX0_errorLaid_102 ?_
    refine r_callS4i (pc := 104) lk_X0_127 dX0_errorLaid_104 s_both (by decide) (Nat.le_of_ble_eq_true rfl) ⟨Nat.zero_le _, Nat.zero_le _⟩ ?_
    exact r_ireturn (pc := 107) false rfl rfl rfl dX0_errorLaid_107 (Nat.zero_le _) (Nat.zero_le _) (Or.inl rfl) rfl (by unfold ek e4; rw [if_neg hc79]) rfl
  · refine r_iload4 (pc := 82) dX0_errorLaid_82 ?_
    refine r_iload5 (pc := 84) dX0_errorLaid_84 ?_
    refine r_iload6 (pc := 86) dX0_errorLaid_86 ?_
    refine r_iload7 (pc := 88) dX0_errorLaid_88 ?_
    refine r_callS4i (pc := 90) lk_X0_127 dX0_errorLaid_90 s_both (by decide) (Nat.le_of_ble_eq_true rfl) ⟨Nat.zero_le _, Nat.zero_le _⟩ ?_
    refine r_goto (pc := 93) 107 (by decide) dX0_errorLaid_93 ?_
    exact r_ireturn (pc := 107) false rfl rfl rfl dX0_errorLaid_107 (Nat.zero_le _) (Nat.zero_le _) (Or.inl rfl) rfl (by unfold ek e4; rw [if_pos hc79]) rfl
set_option maxRecDepth 20000 in
theorem s_layBetterWayW (hI : InvW S z) (hZ : ZOW z) {k : Nat} (hk : k < zt z) : SpecP mX0_layBetterWay 3 0 0 [.ref b, .int (nI k)] (bset M b S) (tW none M b (layW z k)) := by
  have hd := hZ.dims
  have e0 := hZ.ekB (u := 0) hk
  have e1 := hZ.ekB (u := 1) hk
  refine Spec_of [some (.ref b), some (.int (nI k))] (by decide) (Nat.le_of_ble_eq_true rfl) rfl ?_
  refine r_aload0 (pc := 0) dX0_layBetterWay_0 ?_
  refine r_getf (pc := 1) fl_X0_12 dX0_layBetterWay_1 (bget0 rfl) rfl ?_
  refine r_getf (pc := 4) fl_X0_66 dX0_layBetterWay_4 (bget rfl) rfl ?_
  refine r_iload1 (pc := 7) dX0_layBetterWay_7 ?_
  refine r_aload0 (pc := 8) dX0_layBetterWay_8 ?_
  refine r_iload1 (pc := 9) dX0_layBetterWay_9 ?_
  refine n_iconst_0 (pc := 10) dX0_layBetterWay_10 ?_
  refine r_callV2i (pc := 11) lk_X0_123 dX0_layBetterWay_11 (bget0 rfl) (s_errorLaidW hI hZ hk (by omega)) (by decide) (Nat.le_of_ble_eq_true rfl) ⟨Nat.zero_le _, Nat.zero_le _⟩ ?_
  refine r_aload0 (pc := 14) dX0_layBetterWay_14 ?_
  refine r_iload1 (pc := 15) dX0_layBetterWay_15 ?_
  refine n_iconst_1 (pc := 16) dX0_layBetterWay_16 ?_
  refine r_callV2i (pc := 17) lk_X0_123 dX0_layBetterWay_17 (bget0 rfl) (s_errorLaidW hI hZ hk (by omega)) (by decide) (Nat.le_of_ble_eq_true rfl) ⟨Nat.zero_le _, Nat.zero_le _⟩ ?_
  have e : bet z (zF z k) (zO z k) (zT z k) = if ek z k 1 < ek z k 0 then 1 else 0 := rfl
  refine z_icmp_le (pc := 20) 27 (by decide) dX0_layBetterWay_20 (by omega) (by omega) (by omega) (by omega) (fun h9 => ?_) (fun h9 => ?_)
  · refine n_iconst_0 (pc := 27) dX0_layBetterWay_27 ?_
    refine r_callN3v (pc := 28) lk_X0_85 dX0_layBetterWay_28 (s_putB (j := 6) (by decide) rfl (fun _ => rfl) (by omega) (by decide)) (by decide) (Nat.le_of_ble_eq_true rfl) ⟨Nat.zero_le _, Nat.zero_le _⟩ ?_
    exact p_return (pc := 31) false rfl rfl dX0_layBetterWay_31 (Nat.zero_le _) (Nat.zero_le _) (Or.inl rfl) ⟨rfl, _, hI.setU (upd_ups (fun _ h => hI.U h) (by rw [e, if_neg (by omega)])), rfl⟩
  · refine n_iconst_1 (pc := 23) dX0_layBetterWay_23 ?_
    refine r_goto (pc := 24) 28 (by decide) dX0_layBetterWay_24 ?_
    refine r_callN3v (pc := 28) lk_X0_85 dX0_layBetterWay_28 (s_putB (j := 6) (by decide) rfl (fun _ => rfl) (by omega) (by decide)) (by decide) (Nat.le_of_ble_eq_true rfl) ⟨Nat.zero_le _, Nat.zero_le _⟩ ?_
    exact p_return (pc := 31) false rfl rfl dX0_layBetterWay_31 (Nat.zero_le _) (Nat.zero_le _) (Or.inl rfl) ⟨rfl, _, hI.setU (upd_ups (fun _ h => hI.U h) (by rw [e, if_pos (by omega)])), rfl⟩
set_option maxRecDepth 20000 in
theorem s_exchangePlaces (hI : InvW S z) (hZ : ZOW z) {i j : Nat} (hi : i < zt z) (hj : j < zt z) : SpecP mX0_exchangePlaces 2 0 0 [.ref b, .int (nI i), .int (nI j)] (bset M b S) (tW none M b (exZ z i j)) := by
  have hd := hZ.dims
  refine Spec_of [some (.ref b), some (.int (nI i)), some (.int (nI j))] (by decide) (Nat.le_of_ble_eq_true rfl) rfl ?_
  refine r_aload0 (pc := 0) dX0_exchangePlaces_0 ?_
  refine r_getf (pc := 1) fl_X0_12 dX0_exchangePlaces_1 (bget0 rfl) rfl ?_
  refine r_getf (pc := 4) fl_X0_109 dX0_exchangePlaces_4 (bget rfl) rfl ?_
  refine r_iload1 (pc := 7) dX0_exchangePlaces_7 ?_
  refine r_iload2 (pc := 8) dX0_exchangePlaces_8 ?_
  refine r_callN3v (pc := 9) lk_X0_174 dX0_exchangePlaces_9 (s_exchangeB (j := 3) (by decide) rfl (fun _ => rfl) (by omega) (by omega) (by decide)) (by decide) (Nat.le_of_ble_eq_true rfl) ⟨Nat.zero_le _, Nat.zero_le _⟩ ?_
  refine r_aload0 (pc := 12) dX0_exchangePlaces_12 ?_
  refine r_getf (pc := 13) fl_X0_12 dX0_exchangePlaces_13 (bget0 rfl) rfl ?_
  refine r_getf (pc := 16) fl_X0_112 dX0_exchangePlaces_16 (bget rfl) rfl ?_
  refine r_iload1 (pc := 19) dX0_exchangePlaces_19 ?_
  refine r_iload2 (pc := 20) dX0_exchangePlaces_20 ?_
  refine r_callN3v (pc := 21) lk_X0_174 dX0_exchangePlaces_21 (s_exchangeB (j := 4) (by decide) rfl (fun _ => rfl) (by omega) (by omega) (by decide)) (by decide) (Nat.le_of_ble_eq_true rfl) ⟨Nat.zero_le _, Nat.zero_le _⟩ ?_
  refine r_aload0 (pc := 24) dX0_exchangePlaces_24 ?_
  refine r_getf (pc := 25) fl_X0_12 dX0_exchangePlaces_25 (bget0 rfl) rfl ?_
  refine r_getf (pc := 28) fl_X0_82 dX0_exchangePlaces_28 (bget rfl) rfl ?_
  refine r_iload1 (pc := 31) dX0_exchangePlaces_31 ?_
  refine r_iload2 (pc := 32) dX0_exchangePlaces_32 ?_
  refine r_callN3v (pc := 33) lk_X0_174 dX0_exchangePlaces_33 (s_exchangeB (j := 5) (by decide) rfl (fun _ => rfl) (by omega) (by omega) (by decide)) (by decide) (Nat.le_of_ble_eq_true rfl) ⟨Nat.zero_le _, Nat.zero_le _⟩ ?_
  refine r_aload0 (pc := 36) dX0_exchangePlaces_36 ?_
  refine r_getf (pc := 37) fl_X0_12 dX0_exchangePlaces_37 (bget0 rfl) rfl ?_
  refine r_getf (pc := 40) fl_X0_66 dX0_exchangePlaces_40 (bget rfl) rfl ?_
  refine r_iload1 (pc := 43) dX0_exchangePlaces_43 ?_
  refine r_iload2 (pc := 44) dX0_exchangePlaces_44 ?_
  refine r_callN3v (pc := 45) lk_X0_174 dX0_exchangePlaces_45 (s_exchangeB (j := 6) (by decide) rfl (fun _ => rfl) (by omega) (by omega) (by decide)) (by decide) (Nat.le_of_ble_eq_true rfl) ⟨Nat.zero_le _, Nat.zero_le _⟩ ?_
  refine r_aload0 (pc := 48) dX0_exchangePlaces_48 ?_
  refine r_getf (pc := 49) fl_X0_12 dX0_exchangePlaces_49 (bget0 rfl) rfl ?_
  refine r_getf (pc := 52) fl_X0_69 dX0_exchangePlaces_52 (bget rfl) rfl ?_
  refine r_iload1 (pc := 55) dX0_exchangePlaces_55 ?_
  refine r_iload2 (pc := 56) dX0_exchangePlaces_56 ?_
  refine r_callN3v (pc := 57) lk_X0_174 dX0_exchangePlaces_57 (s_exchangeB (j := 7) (by decide) rfl (fun _ => rfl) (by omega) (by omega) (by decide)) (by decide) (Nat.le_of_ble_eq_true rfl) ⟨Nat.zero_le _, Nat.zero_le _⟩ ?_
  have h1 := hI.setF (upd_exR (fun _ h => hI.F h) hi hj)
  have h2 := h1.setO (upd_exR (fun _ h => hI.O h) hi hj)
  have h3 := h2.setT (upd_exR (fun _ h => hI.T h) hi hj)
  have h4 := h3.setU (upd_exR (fun _ h => hI.U h) hi hj)
  have h5 := h4.setH (upd_exR (fun _ h => hI.H h) hi hj)
  exact p_return (pc := 60) false rfl rfl dX0_exchangePlaces_60 (Nat.zero_le _) (Nat.zero_le _) (Or.inl rfl) ⟨rfl, _, h5, rfl⟩
set_option maxRecDepth 20000 in
theorem s_numberAnew (hI : InvW S z) (hZ : ZOW z) {l : Nat} (hl : l < zt z) : SpecP mX0_numberAnew 3 0 0 [.ref b, .int (nI l)] (bset M b S) (tW none M b (naZ z l)) := by
  have hd := hZ.dims
  refine Spec_of [some (.ref b), some (.int (nI l)), none, none] (by decide) (Nat.le_of_ble_eq_true rfl) rfl ?_
  have second : ∀ (f i : Nat) (S : BS) (w : ZS) (k : Nat), f + i = 56 → InvW S w → ZOW w → zt w = zt z → k < zt z → (upF f (w, k)).1 = naZ z l →
    G mX0_numberAnew 3 (.inl false) 0 0 (tW none M b (naZ z l)) none 0 0 60 [some (.ref b), some (.int (nI l)), some (.int (nI k)), some (.int (nI i))] [] (bset M b S)
    := by
    intro f
    induction f with
    | zero =>
      intro i S w k hfi hI hZ ez hk he
      have he : w = naZ z l := he
      refine r_iload3 (pc := 60) dX0_numberAnew_60 ?_
      refine n_bipush (pc := 61) 56 (by decide) dX0_numberAnew_61 ?_
      refine n_icmp_ge (pc := 63) 120 (by decide) dX0_numberAnew_63 (by omega) (by omega) (fun hc63 => ?_) (fun hc63 => absurd hc63 (by omega))
      exact p_return (pc := 120) false rfl rfl dX0_numberAnew_120 (Nat.zero_le _) (Nat.zero_le _) (Or.inl rfl) ⟨rfl, S, by rw [← he]; exact hI, rfl⟩
    | succ f ih =>
      intro i S w k hfi hI hZ ez hk he
      have hc3 := hI.c3
      rw [ez] at hc3
      have out : ¬ (k + 1 < zt w ∧ zF w (k + 1) < zF w k) →
        G mX0_numberAnew 3 (.inl false) 0 0 (tW none M b (naZ z l)) none 0 0 120 [some (.ref b), some (.int (nI l)), some (.int (nI k)), some (.int (nI i))] [] (bset M b S)
        := by
        intro hn
        have he2 : w = naZ z l := by rw [← he]; unfold upF; rw [if_neg hn]
        exact p_return (pc := 120) false rfl rfl dX0_numberAnew_120 (Nat.zero_le _) (Nat.zero_le _) (Or.inl rfl) ⟨rfl, S, by rw [← he2]; exact hI, rfl⟩
      refine r_iload3 (pc := 60) dX0_numberAnew_60 ?_
      refine n_bipush (pc := 61) 56 (by decide) dX0_numberAnew_61 ?_
      refine n_icmp_ge (pc := 63) 120 (by decide) dX0_numberAnew_63 (by omega) (by omega) (fun hc63 => absurd hc63 (by omega)) (fun hc63 => ?_)
      refine r_iload2 (pc := 66) dX0_numberAnew_66 ?_
      refine n_iconst_1 (pc := 67) dX0_numberAnew_67 ?_
      first | refine n_iadd (pc := 68) dX0_numberAnew_68 ?_ | refine z_iadd (pc := 68) dX0_numberAnew_68 ?_ | refine r_iadd (pc := 68) dX0_numberAnew_68 ?_
      refine r_aload0 (pc := 69) dX0_numberAnew_69 ?_
      refine r_getf (pc := 70) fl_X0_75 dX0_numberAnew_70 (bget0 rfl) rfl ?_
      rw [hc3]
      refine n_icmp_ge (pc := 73) 120 (by decide) dX0_numberAnew_73 (by omega) (by omega) (fun h9 => out (by omega)) (fun h9 => ?_)
      have q1 := hZ.2.2.1 k (by omega)
      have q2 := hZ.2.2.1 (k + 1) (by omega)
      have hd2 := hZ.dims
      refine r_aload0 (pc := 76) dX0_numberAnew_76 ?_
      refine r_getf (pc := 77) fl_X0_12 dX0_numberAnew_77 (bget0 rfl) rfl ?_
      refine r_getf (pc := 80) fl_X0_109 dX0_numberAnew_80 (bget rfl) rfl ?_
      refine r_iload2 (pc := 83) dX0_numberAnew_83 ?_
      refine n_iconst_1 (pc := 84) dX0_numberAnew_84 ?_
      first | refine n_iadd (pc := 85) dX0_numberAnew_85 ?_ | refine z_iadd (pc := 85) dX0_numberAnew_85 ?_ | refine r_iadd (pc := 85) dX0_numberAnew_85 ?_
      refine r_callN2i (pc := 86) lk_X0_115 dX0_numberAnew_86 (s_at (bget rfl) (by omega) (by decide) (hI.F (by omega))) (by decide) (Nat.le_of_ble_eq_true rfl) ⟨Nat.zero_le _, Nat.zero_le _⟩ ?_
      refine r_aload0 (pc := 89) dX0_numberAnew_89 ?_
      refine r_getf (pc := 90) fl_X0_12 dX0_numberAnew_90 (bget0 rfl) rfl ?_
      refine r_getf (pc := 93) fl_X0_109 dX0_numberAnew_93 (bget rfl) rfl ?_
      refine r_iload2 (pc := 96) dX0_numberAnew_96 ?_
      refine r_callN2i (pc := 97) lk_X0_115 dX0_numberAnew_97 (s_at (bget rfl) (by omega) (by decide) (hI.F (by omega))) (by decide) (Nat.le_of_ble_eq_true rfl) ⟨Nat.zero_le _, Nat.zero_le _⟩ ?_
      refine n_icmp_ge (pc := 100) 120 (by decide) dX0_numberAnew_100 (by omega) (by omega) (fun h8 => out (by omega)) (fun h8 => ?_)
      refine r_aload0 (pc := 103) dX0_numberAnew_103 ?_
      refine r_iload2 (pc := 104) dX0_numberAnew_104 ?_
      refine r_iload2 (pc := 105) dX0_numberAnew_105 ?_
      refine n_iconst_1 (pc := 106) dX0_numberAnew_106 ?_
      first | refine n_iadd (pc := 107) dX0_numberAnew_107 ?_ | refine z_iadd (pc := 107) dX0_numberAnew_107 ?_ | refine r_iadd (pc := 107) dX0_numberAnew_107 ?_
      refine r_callV2w (pc := 108) lk_X0_199 dX0_numberAnew_108 (bget0 rfl) (s_exchangePlaces hI hZ (i := k) (j := k + 1) (by omega) (by omega))  (by decide) (Nat.le_of_ble_eq_true rfl) ⟨Nat.zero_le _, Nat.zero_le _⟩ (fun M9 h9 => ?_)
      obtain ⟨S, hI, rfl⟩ := h9
      refine n_iinc2 (pc := 111) dX0_numberAnew_111 rfl ?_
      refine n_iinc3 (pc := 114) dX0_numberAnew_114 rfl ?_
      refine r_goto (pc := 117) 60 (by decide) dX0_numberAnew_117 ?_
      refine ih (i + 1) S _ (k + 1) (by omega) hI (exZ_ow hZ (by omega) (by omega)) ez h9 ?_
      rw [← he]
      show _ = (upF (f + 1) (w, k)).1
      have e9 : upF (f + 1) (w, k) = upF f (exZ w k (k + 1), k + 1) := by
        show (if k + 1 < zt w ∧ zF w (k + 1) < zF w k then _ else _) = _
        rw [if_pos ⟨by omega, h8⟩]
      rw [e9]
  have first : ∀ (f i : Nat) (S : BS) (w : ZS) (k : Nat), f + i = 56 → InvW S w → ZOW w → zt w = zt z → k < zt z → dnF f (w, k) = dnF 56 (z, l) →
    G mX0_numberAnew 3 (.inl false) 0 0 (tW none M b (naZ z l)) none 0 0 4 [some (.ref b), some (.int (nI l)), some (.int (nI k)), some (.int (nI i))] [] (bset M b S)
    := by
    intro f
    induction f with
    | zero =>
      intro i S w k hfi hI hZ ez hk he
      have he : (w, k) = dnF 56 (z, l) := he
      refine r_iload3 (pc := 4) dX0_numberAnew_4 ?_
      refine n_bipush (pc := 5) 56 (by decide) dX0_numberAnew_5 ?_
      refine n_icmp_ge (pc := 7) 58 (by decide) dX0_numberAnew_7 (by omega) (by omega) (fun hc7 => ?_) (fun hc7 => absurd hc7 (by omega))
      refine n_iconst_0 (pc := 58) dX0_numberAnew_58 ?_
      refine r_istore3 (pc := 59) dX0_numberAnew_59 rfl ?_
      exact second 56 0 S w k rfl hI hZ ez hk (by unfold naZ; rw [← he])
    | succ f ih =>
      intro i S w k hfi hI hZ ez hk he
      have out : ¬ (0 < k ∧ zF w k < zF w (k - 1)) →
        G mX0_numberAnew 3 (.inl false) 0 0 (tW none M b (naZ z l)) none 0 0 58 [some (.ref b), some (.int (nI l)), some (.int (nI k)), some (.int (nI i))] [] (bset M b S)
        := by
        intro hn
        have he2 : (w, k) = dnF 56 (z, l) := by
          rw [← he]
          show _ = dnF (f + 1) (w, k)
          unfold dnF; rw [if_neg hn]
        refine n_iconst_0 (pc := 58) dX0_numberAnew_58 ?_
        refine r_istore3 (pc := 59) dX0_numberAnew_59 rfl ?_
        exact second 56 0 S w k rfl hI hZ ez hk (by unfold naZ; rw [← he2])
      refine r_iload3 (pc := 4) dX0_numberAnew_4 ?_
      refine n_bipush (pc := 5) 56 (by decide) dX0_numberAnew_5 ?_
      refine n_icmp_ge (pc := 7) 58 (by decide) dX0_numberAnew_7 (by omega) (by omega) (fun hc7 => absurd hc7 (by omega)) (fun hc7 => ?_)
      refine r_iload2 (pc := 10) dX0_numberAnew_10 ?_
      refine n_if_le (pc := 11) 58 (by decide) dX0_numberAnew_11 (by omega) (fun h9 => out (by omega)) (fun h9 => ?_)
      have q1 := hZ.2.2.1 k (by omega)
      have q2 := hZ.2.2.1 (k - 1) (by omega)
      have hd2 := hZ.dims
      refine r_aload0 (pc := 14) dX0_numberAnew_14 ?_
      refine r_getf (pc := 15) fl_X0_12 dX0_numberAnew_15 (bget0 rfl) rfl ?_
      refine r_getf (pc := 18) fl_X0_109 dX0_numberAnew_18 (bget rfl) rfl ?_
      refine r_iload2 (pc := 21) dX0_numberAnew_21 ?_
      refine n_iconst_1 (pc := 22) dX0_numberAnew_22 ?_
      refine n_isub (pc := 23) dX0_numberAnew_23 (by omega) ?_
      refine r_callN2i (pc := 24) lk_X0_115 dX0_numberAnew_24 (s_at (bget rfl) (by omega) (by decide) (hI.F (by omega))) (by decide) (Nat.le_of_ble_eq_true rfl) ⟨Nat.zero_le _, Nat.zero_le _⟩ ?_
      refine r_aload0 (pc := 27) dX0_numberAnew_27 ?_
      refine r_getf (pc := 28) fl_X0_12 dX0_numberAnew_28 (bget0 rfl) rfl ?_
      refine r_getf (pc := 31) fl_X0_109 dX0_numberAnew_31 (bget rfl) rfl ?_
      refine r_iload2 (pc := 34) dX0_numberAnew_34 ?_
      refine r_callN2i (pc := 35) lk_X0_115 dX0_numberAnew_35 (s_at (bget rfl) (by omega) (by decide) (hI.F (by omega))) (by decide) (Nat.le_of_ble_eq_true rfl) ⟨Nat.zero_le _, Nat.zero_le _⟩ ?_
      refine n_icmp_le (pc := 38) 58 (by decide) dX0_numberAnew_38 (by omega) (by omega) (fun h8 => out (by omega)) (fun h8 => ?_)
      refine r_aload0 (pc := 41) dX0_numberAnew_41 ?_
      refine r_iload2 (pc := 42) dX0_numberAnew_42 ?_
      refine n_iconst_1 (pc := 43) dX0_numberAnew_43 ?_
      refine n_isub (pc := 44) dX0_numberAnew_44 (by omega) ?_
      refine r_iload2 (pc := 45) dX0_numberAnew_45 ?_
      refine r_callV2w (pc := 46) lk_X0_199 dX0_numberAnew_46 (bget0 rfl) (s_exchangePlaces hI hZ (i := k - 1) (j := k) (by omega) (by omega))  (by decide) (Nat.le_of_ble_eq_true rfl) ⟨Nat.zero_le _, Nat.zero_le _⟩ (fun M9 h9 => ?_)
      obtain ⟨S, hI, rfl⟩ := h9
      refine r_iinc2 (pc := 49) dX0_numberAnew_49 rfl ?_
      rw [show nI k + Int32.ofInt (-1) = nI (k - 1) by rw [show Int32.ofInt (-1) = -1 from rfl]; obtain ⟨m, rfl⟩ : ∃ m, k = m + 1 := ⟨k - 1, by omega⟩; exact pk_m1 m]
      refine n_iinc3 (pc := 52) dX0_numberAnew_52 rfl ?_
      refine r_goto (pc := 55) 4 (by decide) dX0_numberAnew_55 ?_
      refine ih (i + 1) S _ (k - 1) (by omega) hI (exZ_ow hZ (by omega) (by omega)) ez (by omega) ?_
      rw [← he]
      show _ = dnF (f + 1) (w, k)
      have e9 : dnF (f + 1) (w, k) = dnF f (exZ w (k - 1) k, k - 1) := by
        show (if 0 < k ∧ zF w k < zF w (k - 1) then _ else _) = _
        rw [if_pos ⟨h9, h8⟩]
      rw [e9]
  refine r_iload1 (pc := 0) dX0_numberAnew_0 ?_
  refine r_istore2 (pc := 1) dX0_numberAnew_1 rfl ?_
  refine n_iconst_0 (pc := 2) dX0_numberAnew_2 ?_
  refine r_istore3 (pc := 3) dX0_numberAnew_3 rfl ?_
  exact first 56 0 S z l rfl hI hZ rfl hl rfl
end FLIP

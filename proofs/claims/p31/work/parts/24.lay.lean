def lfF (z : ZS) : Nat → Nat → Nat
  | 0 => fun _ => 0
  | n + 1 => if zH z n = 0 then ups (lfF z n) (zT z n) 1 else lfF z n
def blF (z : ZS) (L : Nat → Nat) (k : Nat) : Nat → Option Nat
  | 0 => none
  | t + 1 => if L t = 0 then blF z L k t else match blF z L k t with
    | none => some t
    | some m => if lwk z t k < lwk z m k then some t else some m
def blV (z : ZS) (L : Nat → Nat) (k t : Nat) : Int := match blF z L k t with
  | none => 0
  | some m => lwk z m k
theorem blF_lt {z : ZS} {L : Nat → Nat} {k m : Nat} : ∀ t, blF z L k t = some m → m < t ∧ L m ≠ 0
  | 0, h => by cases h
  | t + 1, h => by
    unfold blF at h
    split at h
    · have := blF_lt t h; omega
    · rename_i hl
      split at h
      · cases h; exact ⟨Nat.lt_succ_self _, hl⟩
      · rename_i q hq
        split at h
        · cases h; exact ⟨Nat.lt_succ_self _, hl⟩
        · cases h; have := blF_lt t hq; omega
def layT (z : ZS) (k t : Nat) : ZS := layW (zset z 3 (ups (zT z) k t)) k
def laS (p : ZS × (Nat → Nat)) (k : Nat) : ZS × (Nat → Nat) := match blF p.1 p.2 k (zt p.1) with
  | none => p
  | some t => (layT p.1 k t, ups p.2 t 0)
def laF (z : ZS) : Nat → ZS × (Nat → Nat)
  | 0 => (z, lfF z (zt z))
  | n + 1 => if zH z n = 0 then laS (laF z n) n else laF z n
def layZ (z : ZS) : ZS := (laF z (zt z)).1
theorem layT_ok {z : ZS} (h : ZOK z) {k t : Nat} (ht : t < zt z) : ZOK (layT z k t) := by
  refine layW_ok (h.setT (fun s hs => ?_)) k
  by_cases e : s = k
  · rw [e, ups_same]; exact ht
  · rw [ups_ne e]; exact h.t hs
theorem lfF_le (z : ZS) : ∀ n t, lfF z n t ≤ 1
  | 0, _ => Nat.zero_le _
  | n + 1, t => by
    unfold lfF
    split
    · by_cases e : t = zT z n
      · rw [e, ups_same]; exact Nat.le_refl 1
      · rw [ups_ne e]; exact lfF_le z n t
    · exact lfF_le z n t
/-- what the steps of laying anew keep -/
theorem laF_keep {z : ZS} (h : ZOK z) : ∀ n, n ≤ zt z → ZOK (laF z n).1 ∧ zn (laF z n).1 = zn z ∧ zs (laF z n).1 = zs z ∧ (∀ t, (laF z n).2 t ≤ 1) ∧ (∀ k, zH (laF z n).1 k = zH z k)
  | 0, _ => ⟨h, rfl, rfl, fun t => lfF_le z _ t, fun _ => rfl⟩
  | n + 1, hn => by
    obtain ⟨h1, h2, h3, h4, h5⟩ := laF_keep h n (by omega)
    unfold laF
    split
    · unfold laS
      split
      · exact ⟨h1, h2, h3, h4, h5⟩
      · rename_i t ht
        have := (blF_lt _ ht).1
        refine ⟨layT_ok h1 this, h2, h3, fun s => ?_, h5⟩
        by_cases e : s = t
        · show ups _ t 0 s ≤ 1; rw [e, ups_same]; exact Nat.zero_le _
        · show ups _ t 0 s ≤ 1; rw [ups_ne e]; exact h4 s
    · exact ⟨h1, h2, h3, h4, h5⟩
theorem zt_same {z z' : ZS} (h1 : zn z' = zn z) (h2 : zs z' = zs z) : zt z' = zt z := by unfold zt zq zc zr; rw [h1, h2]
theorem layZ_ok {z : ZS} (h : ZOK z) : ZOK (layZ z) := (laF_keep h _ (Nat.le_refl _)).1
section LAY
variable {M : Mem} {b : Nat} {S : BS} {z : ZS}
set_option maxRecDepth 20000 in
theorem s_layBetterWayD (hI : InvB S z) (hZ : ZOK z) {k : Nat} (hk : k < zt z) : Spec mX0_layBetterWay 3 0 0 [.ref b, .int (nI k)] (bset M b S) none (bset M b (ia S 6 (upd (S.2 6) k (nI (bet z (zF z k) (zO z k) (zT z k)))))) := by
  have hd := hZ.dims
  have e0 := hZ.ekB (u := 0) hk
  have e1 := hZ.ekB (u := 1) hk
  refine Spec_of [some (.ref b), some (.int (nI k))] (by decide) (Nat.le_of_ble_eq_true rfl) rfl ?_
  refine r_aload0 (pc := 0) dX0_layBetterWay_0 ?_
  refine r_getf (pc := 1) fl_X0_12 dX0_layBetterWay_1 (bget0 rfl) rfl ?_
  refine r_getf (pc := 4) fl_X0_66 dX0_layBetterWay_4 (bget rfl) rfl ?_
  refine r_iload1 (pc := 7) dX0_layBetterWay_7 ?_
  refine r_aload0 (pc := 8) dX0_layBetterWay_8 ?_
  refine r_iload1 (pc := 9) dX0_layBetterWay_9 ?_
  refine n_iconst_0 (pc := 10) dX0_layBetterWay_10 ?_
  refine r_callV2i (pc := 11) lk_X0_123 dX0_layBetterWay_11 (bget0 rfl) (s_errorLaid hI hZ hk (by omega)) (by decide) (Nat.le_of_ble_eq_true rfl) ⟨Nat.zero_le _, Nat.zero_le _⟩ ?_
  refine r_aload0 (pc := 14) dX0_layBetterWay_14 ?_
  refine r_iload1 (pc := 15) dX0_layBetterWay_15 ?_
  refine n_iconst_1 (pc := 16) dX0_layBetterWay_16 ?_
  refine r_callV2i (pc := 17) lk_X0_123 dX0_layBetterWay_17 (bget0 rfl) (s_errorLaid hI hZ hk (by omega)) (by decide) (Nat.le_of_ble_eq_true rfl) ⟨Nat.zero_le _, Nat.zero_le _⟩ ?_
  have e : bet z (zF z k) (zO z k) (zT z k) = if ek z k 1 < ek z k 0 then 1 else 0 := rfl
  refine z_icmp_le (pc := 20) 27 (by decide) dX0_layBetterWay_20 (by omega) (by omega) (by omega) (by omega) (fun h9 => ?_) (fun h9 => ?_)
  · rw [if_neg (by omega)] at e
    refine n_iconst_0 (pc := 27) dX0_layBetterWay_27 ?_
    refine r_callN3v (pc := 28) lk_X0_85 dX0_layBetterWay_28 (s_putB (j := 6) (by decide) rfl (fun _ => rfl) (by omega) (by decide)) (by decide) (Nat.le_of_ble_eq_true rfl) ⟨Nat.zero_le _, Nat.zero_le _⟩ ?_
    exact r_return (pc := 31) false rfl rfl dX0_layBetterWay_31 (Nat.zero_le _) (Nat.zero_le _) (Or.inl rfl) rfl (by rw [e])
  · rw [if_pos (by omega)] at e
    refine n_iconst_1 (pc := 23) dX0_layBetterWay_23 ?_
    refine r_goto (pc := 24) 28 (by decide) dX0_layBetterWay_24 ?_
    refine r_callN3v (pc := 28) lk_X0_85 dX0_layBetterWay_28 (s_putB (j := 6) (by decide) rfl (fun _ => rfl) (by omega) (by decide)) (by decide) (Nat.le_of_ble_eq_true rfl) ⟨Nat.zero_le _, Nat.zero_le _⟩ ?_
    exact r_return (pc := 31) false rfl rfl dX0_layBetterWay_31 (Nat.zero_le _) (Nat.zero_le _) (Or.inl rfl) rfl (by rw [e])
def LR (S : BS) (z : ZS) (L : Nat → Nat) : Prop := ∀ t, t < zt z → S.2 20 t = nI (L t)
def LQ (M : Mem) (b : Nat) (p : ZS × (Nat → Nat)) : Mem → Prop := fun Mf => ∃ S', InvB S' p.1 ∧ LR S' p.1 p.2 ∧ Mf = bset M b S'
set_option maxRecDepth 20000 in
theorem s_layBestTile {L : Nat → Nat} (hI : InvB S z) (hZ : ZOK z) (hL : LR S z L) (hL1 : ∀ t, L t ≤ 1) {k : Nat} (hk : k < zt z) : SpecP mX0_layBestTile 4 0 0 [.ref b, .int (nI k)] (bset M b S) (tP none (LQ M b (laS (z, L) k))) := by
  have hd := hZ.dims
  have hf := hZ.fo hk
  have g1 := hZ.g (hZ.fq hk)
  have g2 := hZ.g (hZ.oq hk)
  refine Spec_of [some (.ref b), some (.int (nI k)), none, none, none, none, none, none] (by decide) (Nat.le_of_ble_eq_true rfl) rfl ?_
  refine r_aload0 (pc := 0) dX0_layBestTile_0 ?_
  refine r_getf (pc := 1) fl_X0_12 dX0_layBestTile_1 (bget0 rfl) rfl ?_
  refine r_getf (pc := 4) fl_X0_57 dX0_layBestTile_4 (bget rfl) rfl ?_
  refine r_aload0 (pc := 7) dX0_layBestTile_7 ?_
  refine r_getf (pc := 8) fl_X0_12 dX0_layBestTile_8 (bget0 rfl) rfl ?_
  refine r_getf (pc := 11) fl_X0_109 dX0_layBestTile_11 (bget rfl) rfl ?_
  refine r_iload1 (pc := 14) dX0_layBestTile_14 ?_
  refine r_callN2i (pc := 15) lk_X0_115 dX0_layBestTile_15 (s_at (bget rfl) (by omega) (by decide) (hI.F hk)) (by decide) (Nat.le_of_ble_eq_true rfl) ⟨Nat.zero_le _, Nat.zero_le _⟩ ?_
  refine r_callN2i (pc := 18) lk_X0_115 dX0_layBestTile_18 (s_at (bget rfl) (by omega) (by decide) (hI.G (by omega))) (by decide) (Nat.le_of_ble_eq_true rfl) ⟨Nat.zero_le _, Nat.zero_le _⟩ ?_
  refine r_istore2 (pc := 21) dX0_layBestTile_21 rfl ?_
  refine r_aload0 (pc := 22) dX0_layBestTile_22 ?_
  refine r_getf (pc := 23) fl_X0_12 dX0_layBestTile_23 (bget0 rfl) rfl ?_
  refine r_getf (pc := 26) fl_X0_57 dX0_layBestTile_26 (bget rfl) rfl ?_
  refine r_aload0 (pc := 29) dX0_layBestTile_29 ?_
  refine r_getf (pc := 30) fl_X0_12 dX0_layBestTile_30 (bget0 rfl) rfl ?_
  refine r_getf (pc := 33) fl_X0_112 dX0_layBestTile_33 (bget rfl) rfl ?_
  refine r_iload1 (pc := 36) dX0_layBestTile_36 ?_
  refine r_callN2i (pc := 37) lk_X0_115 dX0_layBestTile_37 (s_at (bget rfl) (by omega) (by decide) (hI.O hk)) (by decide) (Nat.le_of_ble_eq_true rfl) ⟨Nat.zero_le _, Nat.zero_le _⟩ ?_
  refine r_callN2i (pc := 40) lk_X0_115 dX0_layBestTile_40 (s_at (bget rfl) (by omega) (by decide) (hI.G (by omega))) (by decide) (Nat.le_of_ble_eq_true rfl) ⟨Nat.zero_le _, Nat.zero_le _⟩ ?_
  refine r_istore3 (pc := 43) dX0_layBestTile_43 rfl ?_
  refine r_iconst_m1 (pc := 44) dX0_layBestTile_44 ?_
  refine r_istore4 (pc := 45) dX0_layBestTile_45 rfl ?_
  refine n_iconst_0 (pc := 47) dX0_layBestTile_47 ?_
  refine r_istore5 (pc := 48) dX0_layBestTile_48 rfl ?_
  refine n_iconst_0 (pc := 50) dX0_layBestTile_50 ?_
  refine r_istore6 (pc := 51) dX0_layBestTile_51 rfl ?_
  refine up_to (N := zt z) (k := 0) (fun t => ∀ a7,
    G mX0_layBestTile 4 (.inl false) 0 0 (tP none (LQ M b (laS (z, L) k))) none 0 0 53 [some (.ref b), some (.int (nI k)), some (.int (nI (zG z (zF z k)))), some (.int (nI (zG z (zO z k)))), some (.int (oI (blF z L k t))), some (.int (iI (blV z L k t))), some (.int (nI t)), a7] [] (bset M b S)
    ) (fun a7 => ?_) (fun t ht ih a7 => ?_) (Nat.zero_le _) none
  · refine r_iload6 (pc := 53) dX0_layBestTile_53 ?_
    refine r_aload0 (pc := 55) dX0_layBestTile_55 ?_
    refine r_getf (pc := 56) fl_X0_75 dX0_layBestTile_56 (bget0 rfl) rfl ?_
    rw [hI.c3]
    refine n_icmp_ge (pc := 59) 126 (by decide) dX0_layBestTile_59 (by omega) (by omega) (fun hc59 => ?_) (fun hc59 => absurd hc59 (by omega))
    refine r_iload4 (pc := 126) dX0_layBestTile_126 ?_
    refine r_iconst_m1 (pc := 128) dX0_layBestTile_128 ?_
    have e : laS (z, L) k = match blF z L k (zt z) with
      | none => (z, L)
      | some t => (layT z k t, ups L t 0) := rfl
    cases hq9 : blF z L k (zt z) with
    | none =>
      rw [hq9] at e
      refine r_icmp_eq (pc := 129) 160 (by decide) dX0_layBestTile_129 (fun _ => ?_) (fun h9 => absurd rfl h9)
      exact p_return (pc := 160) false rfl rfl dX0_layBestTile_160 (Nat.zero_le _) (Nat.zero_le _) (Or.inl rfl) ⟨rfl, S, by rw [e]; exact hI, by rw [e]; exact hL, rfl⟩
    | some t =>
      rw [hq9] at e
      have ht := (blF_lt _ hq9).1
      refine r_icmp_eq (pc := 129) 160 (by decide) dX0_layBestTile_129 (fun h9 => absurd h9 (nI_ne_m1 (by omega))) (fun _ => ?_)
      rw [oI_some]
      refine r_aload0 (pc := 132) dX0_layBestTile_132 ?_
      refine r_getf (pc := 133) fl_X0_41 dX0_layBestTile_133 (bget0 rfl) rfl ?_
      refine r_iload4 (pc := 136) dX0_layBestTile_136 ?_
      refine n_iconst_0 (pc := 138) dX0_layBestTile_138 ?_
      refine r_callN3v (pc := 139) lk_X0_85 dX0_layBestTile_139 (s_putB (j := 20) (by decide) rfl (fun _ => rfl) (by omega) (by decide)) (by decide) (Nat.le_of_ble_eq_true rfl) ⟨Nat.zero_le _, Nat.zero_le _⟩ ?_
      refine r_aload0 (pc := 142) dX0_layBestTile_142 ?_
      refine r_getf (pc := 143) fl_X0_12 dX0_layBestTile_143 (bget0 rfl) rfl ?_
      refine r_getf (pc := 146) fl_X0_82 dX0_layBestTile_146 (bget rfl) rfl ?_
      refine r_iload1 (pc := 149) dX0_layBestTile_149 ?_
      refine r_iload4 (pc := 150) dX0_layBestTile_150 ?_
      refine r_callN3v (pc := 152) lk_X0_85 dX0_layBestTile_152 (s_putB (j := 5) (by decide) rfl (fun _ => rfl) (by omega) (by decide)) (by decide) (Nat.le_of_ble_eq_true rfl) ⟨Nat.zero_le _, Nat.zero_le _⟩ ?_
      have hI1 : InvB (ia (ia S 20 (upd (S.2 20) t (nI 0))) 5 (upd (S.2 5) k (nI t))) (zset z 3 (ups (zT z) k t)) := (hI.scr (j := 20) (by decide) _).setT (upd_ups (fun _ h => hI.T h) rfl)
      have hZ1 : ZOK (zset z 3 (ups (zT z) k t)) := hZ.setT (fun s hs => by
        by_cases e : s = k
        · rw [e, ups_same]; exact ht
        · rw [ups_ne e]; exact hZ.t hs)
      refine r_aload0 (pc := 155) dX0_layBestTile_155 ?_
      refine r_iload1 (pc := 156) dX0_layBestTile_156 ?_
      refine r_callV1v (pc := 157) lk_X0_177 dX0_layBestTile_157 (bget0 rfl) (s_layBetterWayD hI1 hZ1 (k := k) hk) (by decide) (Nat.le_of_ble_eq_true rfl) ⟨Nat.zero_le _, Nat.zero_le _⟩ ?_
      refine p_return (pc := 160) false rfl rfl dX0_layBestTile_160 (Nat.zero_le _) (Nat.zero_le _) (Or.inl rfl) ⟨rfl, _, ?_, ?_, rfl⟩
      · rw [e]; exact hI1.setU (upd_ups (fun _ h => hI1.U h) rfl)
      · rw [e]; exact upd_ups hL rfl
  · have hl1 := hL1 t
    have tj := hZ.hab ht
    refine G_fgt 7 ?_
    refine r_iload6 (pc := 53) dX0_layBestTile_53 ?_
    refine r_aload0 (pc := 55) dX0_layBestTile_55 ?_
    refine r_getf (pc := 56) fl_X0_75 dX0_layBestTile_56 (bget0 rfl) rfl ?_
    rw [hI.c3]
    refine n_icmp_ge (pc := 59) 126 (by decide) dX0_layBestTile_59 (by omega) (by omega) (fun hc59 => absurd hc59 (by omega)) (fun hc59 => ?_)
    refine r_aload0 (pc := 62) dX0_layBestTile_62 ?_
    refine r_getf (pc := 63) fl_X0_41 dX0_layBestTile_63 (bget0 rfl) rfl ?_
    refine r_iload6 (pc := 66) dX0_layBestTile_66 ?_
    refine r_callN2i (pc := 68) lk_X0_115 dX0_layBestTile_68 (s_at (bget rfl) (by omega) (by decide) (hL t ht)) (by decide) (Nat.le_of_ble_eq_true rfl) ⟨Nat.zero_le _, Nat.zero_le _⟩ ?_
    have e : blF z L k (t + 1) = if L t = 0 then blF z L k t else match blF z L k t with
      | none => some t
      | some m => if lwk z t k < lwk z m k then some t else some m := rfl
    have ev : blV z L k (t + 1) = match blF z L k (t + 1) with
      | none => 0
      | some m => lwk z m k := rfl
    have ev0 : blV z L k t = match blF z L k t with
      | none => 0
      | some m => lwk z m k := rfl
    refine n_if_eq (pc := 71) 120 (by decide) dX0_layBestTile_71 (by omega) (fun h9 => ?_) (fun h9 => ?_)
    · rw [if_pos h9] at e
      rw [e, ← ev0] at ev
      refine n_iinc6 (pc := 120) dX0_layBestTile_120 rfl ?_
      refine r_goto (pc := 123) 53 (by decide) dX0_layBestTile_123 ?_
      rw [e, ev] at ih; exact ih _
    · rw [if_neg h9] at e
      refine r_iload2 (pc := 74) dX0_layBestTile_74 ?_
      refine r_iload3 (pc := 75) dX0_layBestTile_75 ?_
      refine r_aload0 (pc := 76) dX0_layBestTile_76 ?_
      refine r_getf (pc := 77) fl_X0_25 dX0_layBestTile_77 (bget0 rfl) rfl ?_
      refine r_iload6 (pc := 80) dX0_layBestTile_80 ?_
      refine r_callN2i (pc := 82) lk_X0_115 dX0_layBestTile_82 (s_at (bget rfl) (by omega) (by decide) (hI.A ht)) (by decide) (Nat.le_of_ble_eq_true rfl) ⟨Nat.zero_le _, Nat.zero_le _⟩ ?_
      refine r_aload0 (pc := 85) dX0_layBestTile_85 ?_
      refine r_getf (pc := 86) fl_X0_28 dX0_layBestTile_86 (bget0 rfl) rfl ?_
      refine r_iload6 (pc := 89) dX0_layBestTile_89 ?_
      refine r_callN2i (pc := 91) lk_X0_115 dX0_layBestTile_91 (s_at (bget rfl) (by omega) (by decide) (hI.B ht)) (by decide) (Nat.le_of_ble_eq_true rfl) ⟨Nat.zero_le _, Nat.zero_le _⟩ ?_
      refine r_callS4i (pc := 94) lk_X0_131 dX0_layBestTile_94 (s_leastOf g1 g2 tj.1 tj.2) (by decide) (Nat.le_of_ble_eq_true rfl) ⟨Nat.zero_le _, Nat.zero_le _⟩ ?_
      refine r_istore7 (pc := 97) dX0_layBestTile_97 rfl ?_
      refine r_iload4 (pc := 99) dX0_layBestTile_99 ?_
      refine r_iconst_m1 (pc := 101) dX0_layBestTile_101 ?_
      cases hq9 : blF z L k t with
      | none =>
        rw [hq9] at e
        rw [e] at ev
        refine r_icmp_eq (pc := 102) 112 (by decide) dX0_layBestTile_102 (fun _ => ?_) (fun h9 => absurd rfl h9)
        refine r_iload6 (pc := 112) dX0_layBestTile_112 ?_
        refine r_istore4 (pc := 114) dX0_layBestTile_114 rfl ?_
        refine r_iload7 (pc := 116) dX0_layBestTile_116 ?_
        refine r_istore5 (pc := 118) dX0_layBestTile_118 rfl ?_
        refine n_iinc6 (pc := 120) dX0_layBestTile_120 rfl ?_
        refine r_goto (pc := 123) 53 (by decide) dX0_layBestTile_123 ?_
        rw [e, ev] at ih; exact ih _
      | some m =>
        have hm := (blF_lt _ hq9).1
        have b1 : 0 ≤ lwk z t k ∧ lwk z t k ≤ 19602 := hZ.lwB (hZ.fq hk) (hZ.oq hk) ht
        have b2 : 0 ≤ lwk z m k ∧ lwk z m k ≤ 19602 := hZ.lwB (hZ.fq hk) (hZ.oq hk) (by omega)
        rw [hq9] at e ev0
        have ev1 : blV z L k t = lwk z m k := ev0
        refine r_icmp_eq (pc := 102) 112 (by decide) dX0_layBestTile_102 (fun h9 => absurd h9 (nI_ne_m1 (by omega))) (fun _ => ?_)
        refine r_iload7 (pc := 105) dX0_layBestTile_105 ?_
        refine r_iload5 (pc := 107) dX0_layBestTile_107 ?_
        rw [show lst (zG z (zF z k)) (zG z (zO z k)) (ha z t) (hb z t) = lwk z t k from rfl, ev1]
        refine z_icmp_ge (pc := 109) 120 (by decide) dX0_layBestTile_109 (by omega) (by omega) (by omega) (by omega) (fun h8 => ?_) (fun h8 => ?_)
        · rw [show (match some m with | none => some t | some m => if lwk z t k < lwk z m k then some t else some m) = some m from if_neg (by omega)] at e
          rw [e] at ev
          refine n_iinc6 (pc := 120) dX0_layBestTile_120 rfl ?_
          refine r_goto (pc := 123) 53 (by decide) dX0_layBestTile_123 ?_
          rw [e, ev] at ih; exact ih _
        · rw [show (match some m with | none => some t | some m => if lwk z t k < lwk z m k then some t else some m) = some t from if_pos h8] at e
          rw [e] at ev
          refine r_iload6 (pc := 112) dX0_layBestTile_112 ?_
          refine r_istore4 (pc := 114) dX0_layBestTile_114 rfl ?_
          refine r_iload7 (pc := 116) dX0_layBestTile_116 ?_
          refine r_istore5 (pc := 118) dX0_layBestTile_118 rfl ?_
          refine n_iinc6 (pc := 120) dX0_layBestTile_120 rfl ?_
          refine r_goto (pc := 123) 53 (by decide) dX0_layBestTile_123 ?_
          rw [e, ev] at ih; exact ih _
set_option maxRecDepth 20000 in
theorem s_layAnew (hI : InvB S z) (hZ : ZOK z) : SpecP mX0_layAnew 5 0 0 [.ref b] (bset M b S) (tB none M b (layZ z)) := by
  have hd := hZ.dims
  refine Spec_of [some (.ref b), none] (by decide) (Nat.le_of_ble_eq_true rfl) rfl ?_
  refine r_aload0 (pc := 0) dX0_layAnew_0 ?_
  refine r_getf (pc := 1) fl_X0_41 dX0_layAnew_1 (bget0 rfl) rfl ?_
  refine n_iconst_0 (pc := 4) dX0_layAnew_4 ?_
  refine r_callS2v (pc := 5) lk_X0_60 dX0_layAnew_5 (s_fillB (j := 20) (by decide) rfl (fun _ => rfl) (by decide)) (by decide) (Nat.le_of_ble_eq_true rfl) ⟨Nat.zero_le _, Nat.zero_le _⟩ ?_
  refine n_iconst_0 (pc := 8) dX0_layAnew_8 ?_
  refine r_istore1 (pc := 9) dX0_layAnew_9 rfl ?_
  refine up_to (N := zt z) (k := 0) (fun i => ∀ S, InvB S z → LR S z (lfF z i) →
    G mX0_layAnew 5 (.inl false) 0 0 (tB none M b (layZ z)) none 0 0 10 [some (.ref b), some (.int (nI i))] [] (bset M b S)
    ) (fun S hI hL => ?_) (fun i hi ih S hI hL => ?_) (Nat.zero_le _) _ (hI.scr (j := 20) (by decide) _) (fun t ht => if_pos (by omega))
  · have hc3 := hI.c3
    refine r_iload1 (pc := 10) dX0_layAnew_10 ?_
    refine r_aload0 (pc := 11) dX0_layAnew_11 ?_
    refine r_getf (pc := 12) fl_X0_75 dX0_layAnew_12 (bget0 rfl) rfl ?_
    rw [hc3]
    refine n_icmp_ge (pc := 15) 51 (by decide) dX0_layAnew_15 (by omega) (by omega) (fun hc15 => ?_) (fun hc15 => absurd hc15 (by omega))
    refine n_iconst_0 (pc := 51) dX0_layAnew_51 ?_
    refine r_istore1 (pc := 52) dX0_layAnew_52 rfl ?_
    refine up_to (N := zt z) (k := 0) (fun i => ∀ S, InvB S (laF z i).1 → LR S (laF z i).1 (laF z i).2 →
      G mX0_layAnew 5 (.inl false) 0 0 (tB none M b (layZ z)) none 0 0 53 [some (.ref b), some (.int (nI i))] [] (bset M b S)
      ) (fun S hI hL => ?_) (fun i hi ih S hI hL => ?_) (Nat.zero_le _) S hI hL
    · obtain ⟨k1, k2, k3, k4, k5⟩ := laF_keep hZ (zt z) (Nat.le_refl _)
      have hc3 := hI.c3
      rw [zt_same k2 k3] at hc3
      refine r_iload1 (pc := 53) dX0_layAnew_53 ?_
      refine r_aload0 (pc := 54) dX0_layAnew_54 ?_
      refine r_getf (pc := 55) fl_X0_75 dX0_layAnew_55 (bget0 rfl) rfl ?_
      rw [hc3]
      refine n_icmp_ge (pc := 58) 80 (by decide) dX0_layAnew_58 (by omega) (by omega) (fun hc58 => ?_) (fun hc58 => absurd hc58 (by omega))
      exact p_return (pc := 80) false rfl rfl dX0_layAnew_80 (Nat.zero_le _) (Nat.zero_le _) (Or.inl rfl) ⟨rfl, S, hI, rfl⟩
    · obtain ⟨k1, k2, k3, k4, k5⟩ := laF_keep hZ i (by omega)
      have ez := zt_same k2 k3
      have hc3 := hI.c3
      rw [ez] at hc3
      refine r_iload1 (pc := 53) dX0_layAnew_53 ?_
      refine r_aload0 (pc := 54) dX0_layAnew_54 ?_
      refine r_getf (pc := 55) fl_X0_75 dX0_layAnew_55 (bget0 rfl) rfl ?_
      rw [hc3]
      refine n_icmp_ge (pc := 58) 80 (by decide) dX0_layAnew_58 (by omega) (by omega) (fun hc58 => absurd hc58 (by omega)) (fun hc58 => ?_)
      refine r_aload0 (pc := 61) dX0_layAnew_61 ?_
      refine r_iload1 (pc := 62) dX0_layAnew_62 ?_
      refine r_callV1i (pc := 63) lk_X0_168 dX0_layAnew_63 (bget0 rfl) (s_isHeld hI k1 (by omega)) (by decide) (Nat.le_of_ble_eq_true rfl) ⟨Nat.zero_le _, Nat.zero_le _⟩ ?_
      rw [k5]
      refine b_if_ne (pc := 66) 74 (by decide) dX0_layAnew_66 (fun h9 => ?_) (fun h9 => ?_)
      · refine n_iinc1 (pc := 74) dX0_layAnew_74 rfl ?_
        refine r_goto (pc := 77) 53 (by decide) dX0_layAnew_77 ?_
        have e : laF z (i + 1) = laF z i := if_neg (by simpa using h9)
        rw [e] at ih; exact ih S hI hL
      · have e : laF z (i + 1) = laS (laF z i) i := if_pos (by simpa using h9)
        refine r_aload0 (pc := 69) dX0_layAnew_69 ?_
        refine r_iload1 (pc := 70) dX0_layAnew_70 ?_
        refine r_callV1w (pc := 71) lk_X0_202 dX0_layAnew_71 (bget0 rfl) (s_layBestTile (L := (laF z i).2) hI k1 hL k4 (by omega))  (by decide) (Nat.le_of_ble_eq_true rfl) ⟨Nat.zero_le _, Nat.zero_le _⟩ (fun M9 h9 => ?_)
        obtain ⟨S, hI, hL, rfl⟩ := h9
        refine n_iinc1 (pc := 74) dX0_layAnew_74 rfl ?_
        refine r_goto (pc := 77) 53 (by decide) dX0_layAnew_77 ?_
        rw [e] at ih; exact ih S hI hL
  · have hc3 := hI.c3
    have ht := hZ.t hi
    refine r_iload1 (pc := 10) dX0_layAnew_10 ?_
    refine r_aload0 (pc := 11) dX0_layAnew_11 ?_
    refine r_getf (pc := 12) fl_X0_75 dX0_layAnew_12 (bget0 rfl) rfl ?_
    rw [hc3]
    refine n_icmp_ge (pc := 15) 51 (by decide) dX0_layAnew_15 (by omega) (by omega) (fun hc15 => absurd hc15 (by omega)) (fun hc15 => ?_)
    refine r_aload0 (pc := 18) dX0_layAnew_18 ?_
    refine r_iload1 (pc := 19) dX0_layAnew_19 ?_
    refine r_callV1i (pc := 20) lk_X0_168 dX0_layAnew_20 (bget0 rfl) (s_isHeld hI hZ hi) (by decide) (Nat.le_of_ble_eq_true rfl) ⟨Nat.zero_le _, Nat.zero_le _⟩ ?_
    refine b_if_ne (pc := 23) 45 (by decide) dX0_layAnew_23 (fun h9 => ?_) (fun h9 => ?_)
    · refine n_iinc1 (pc := 45) dX0_layAnew_45 rfl ?_
      refine r_goto (pc := 48) 10 (by decide) dX0_layAnew_48 ?_
      refine ih S hI ?_
      rw [show lfF z (i + 1) = lfF z i from if_neg (by simpa using h9)]; exact hL
    · refine r_aload0 (pc := 26) dX0_layAnew_26 ?_
      refine r_getf (pc := 27) fl_X0_41 dX0_layAnew_27 (bget0 rfl) rfl ?_
      refine r_aload0 (pc := 30) dX0_layAnew_30 ?_
      refine r_getf (pc := 31) fl_X0_12 dX0_layAnew_31 (bget0 rfl) rfl ?_
      refine r_getf (pc := 34) fl_X0_82 dX0_layAnew_34 (bget rfl) rfl ?_
      refine r_iload1 (pc := 37) dX0_layAnew_37 ?_
      refine r_callN2i (pc := 38) lk_X0_115 dX0_layAnew_38 (s_at (bget rfl) (by omega) (by decide) (hI.T hi)) (by decide) (Nat.le_of_ble_eq_true rfl) ⟨Nat.zero_le _, Nat.zero_le _⟩ ?_
      refine n_iconst_1 (pc := 41) dX0_layAnew_41 ?_
      refine r_callN3v (pc := 42) lk_X0_85 dX0_layAnew_42 (s_putB (j := 20) (by decide) rfl (fun _ => rfl) (by omega) (by decide)) (by decide) (Nat.le_of_ble_eq_true rfl) ⟨Nat.zero_le _, Nat.zero_le _⟩ ?_
      refine n_iinc1 (pc := 45) dX0_layAnew_45 rfl ?_
      refine r_goto (pc := 48) 10 (by decide) dX0_layAnew_48 ?_
      refine ih _ (hI.scr (j := 20) (by decide) _) ?_
      rw [show lfF z (i + 1) = ups (lfF z i) (zT z i) 1 from if_pos (by simpa using h9)]
      exact upd_ups hL rfl
end LAY

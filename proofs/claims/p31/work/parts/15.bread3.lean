theorem part_geo {z : ZS} (h : ZOK z) {k l : Nat} (hk : k < zt z) (hp : part z k = some l) : fst2 z k = zO z k ∧ zF z k + stp z k = zF z l ∧ fst2 z k + stp z k = zO z l ∧ l ≠ k := by
  have hl := part_lt h hp
  obtain ⟨h1, h2, h3⟩ := part_F h hp
  have f1 := h.fo hk
  have f2 := h.fo hl
  have hd := h.dims
  unfold stt at h1
  unfold fst2 stp
  cases ha : al z k with
  | true =>
    rw [ha] at h1 h2
    have e1 : zO z k = zF z k + 1 := of_decide_eq_true ha
    have e2 : zO z l = zF z l + 1 := of_decide_eq_true h2
    simp at h1 ⊢
    refine ⟨by omega, by omega, by omega, fun e => ?_⟩
    subst e; omega
  | false =>
    rw [ha] at h1 h2
    have e1 : ¬ zO z k = zF z k + 1 := of_decide_eq_false ha
    have e2 : ¬ zO z l = zF z l + 1 := of_decide_eq_false h2
    simp at h1 ⊢
    refine ⟨by omega, by omega, by omega, fun e => ?_⟩
    subst e; omega
/-- how many of the first n -/
def zN (p : Nat → Bool) : Nat → Nat
  | 0 => 0
  | n + 1 => zN p n + (if p n then 1 else 0)
theorem zN_le (p : Nat → Bool) : ∀ n, zN p n ≤ n
  | 0 => Nat.le_refl 0
  | n + 1 => by have := zN_le p n; unfold zN; split <;> omega
def zM (f : Nat → Nat) : Nat → Nat
  | 0 => 0
  | n + 1 => zM f n + f n
theorem zM_le {f : Nat → Nat} {m : Nat} (hf : ∀ k, k < m → f k ≤ 1) : ∀ n, n ≤ m → zM f n ≤ n
  | 0, _ => Nat.le_refl 0
  | n + 1, h => by have := zM_le hf n (by omega); have := hf n (by omega); unfold zM; omega
def lsq (z : ZS) (s : Nat) : Nat → Int
  | 0 => sqd (zG z s) (sh (zn z) 0)
  | p + 1 => if lsq z s p < sqd (zG z s) (sh (zn z) (p + 1)) then lsq z s p else sqd (zG z s) (sh (zn z) (p + 1))
def leastZ (z : ZS) : Int := zS (fun s => lsq z s (zn z)) (zq z)
theorem lsq_le {z : ZS} (h : ZOK z) {s : Nat} (hs : s < zq z) : ∀ p, p ≤ zn z → 0 ≤ lsq z s p ∧ lsq z s p ≤ 9801
  | 0, _ => sqd_le (h.g hs) (sh_le h.n.1 (Nat.zero_le _))
  | p + 1, hp => by
    have h1 := lsq_le h hs p (by omega)
    have h2 := sqd_le (h.g hs) (sh_le h.n.1 hp)
    unfold lsq
    split <;> omega
section BREAD3
variable {M : Mem} {b : Nat} {S : BS} {z : ZS}
set_option maxRecDepth 20000 in
theorem s_flipGain (hI : InvB S z) (hZ : ZOK z) {k l : Nat} (hk : k < zt z) (hp : part z k = some l) : Spec mX0_flipGain 3 0 0 [.ref b, .int (nI k), .int (nI l)] (bset M b S) (some (.int (iI (fgZ z k l)))) (bset M b S) := by
  have hd := hZ.dims
  have hf := hZ.fo hk
  have hl := part_lt hZ hp
  have fl := hZ.fo hl
  have uk := hZ.u hk
  have ul := hZ.u hl
  obtain ⟨e1, e2, e3, -⟩ := part_geo hZ hk hp
  refine Spec_of [some (.ref b), some (.int (nI k)), some (.int (nI l)), none, none, none, none] (by decide) (Nat.le_of_ble_eq_true rfl) rfl ?_
  have fin :
    G mX0_flipGain 3 (.inl false) 0 0 (dT (some (.int (iI (fgZ z k l)))) (bset M b S)) none 0 0 50 [some (.ref b), some (.int (nI k)), some (.int (nI l)), some (.int (bI (al z k))), some (.int (nI (zF z k))), some (.int (nI (fst2 z k))), some (.int (nI (stp z k)))] [] (bset M b S)
    := by
    refine r_aload0 (pc := 50) dX0_flipGain_50 ?_
    refine r_iload1 (pc := 51) dX0_flipGain_51 ?_
    refine r_aload0 (pc := 52) dX0_flipGain_52 ?_
    refine r_getf (pc := 53) fl_X0_12 dX0_flipGain_53 (bget0 rfl) rfl ?_
    refine r_getf (pc := 56) fl_X0_66 dX0_flipGain_56 (bget rfl) rfl ?_
    refine r_iload1 (pc := 59) dX0_flipGain_59 ?_
    refine r_callN2i (pc := 60) lk_X0_115 dX0_flipGain_60 (s_at (bget rfl) (by omega) (by decide) (hI.U hk)) (by decide) (Nat.le_of_ble_eq_true rfl) ⟨Nat.zero_le _, Nat.zero_le _⟩ ?_
    refine r_callV2i (pc := 63) lk_X0_123 dX0_flipGain_63 (bget0 rfl) (s_errorLaid hI hZ hk (by omega)) (by decide) (Nat.le_of_ble_eq_true rfl) ⟨Nat.zero_le _, Nat.zero_le _⟩ ?_
    refine r_aload0 (pc := 66) dX0_flipGain_66 ?_
    refine r_iload2 (pc := 67) dX0_flipGain_67 ?_
    refine r_aload0 (pc := 68) dX0_flipGain_68 ?_
    refine r_getf (pc := 69) fl_X0_12 dX0_flipGain_69 (bget0 rfl) rfl ?_
    refine r_getf (pc := 72) fl_X0_66 dX0_flipGain_72 (bget rfl) rfl ?_
    refine r_iload2 (pc := 75) dX0_flipGain_75 ?_
    refine r_callN2i (pc := 76) lk_X0_115 dX0_flipGain_76 (s_at (bget rfl) (by omega) (by decide) (hI.U hl)) (by decide) (Nat.le_of_ble_eq_true rfl) ⟨Nat.zero_le _, Nat.zero_le _⟩ ?_
    refine r_callV2i (pc := 79) lk_X0_123 dX0_flipGain_79 (bget0 rfl) (s_errorLaid hI hZ hl (by omega)) (by decide) (Nat.le_of_ble_eq_true rfl) ⟨Nat.zero_le _, Nat.zero_le _⟩ ?_
    first | refine n_iadd (pc := 82) dX0_flipGain_82 ?_ | refine z_iadd (pc := 82) dX0_flipGain_82 ?_ | refine r_iadd (pc := 82) dX0_flipGain_82 ?_
    refine r_aload0 (pc := 83) dX0_flipGain_83 ?_
    refine r_iload4 (pc := 84) dX0_flipGain_84 ?_
    refine r_iload4 (pc := 86) dX0_flipGain_86 ?_
    refine r_iload6 (pc := 88) dX0_flipGain_88 ?_
    first | refine n_iadd (pc := 90) dX0_flipGain_90 ?_ | refine z_iadd (pc := 90) dX0_flipGain_90 ?_ | refine r_iadd (pc := 90) dX0_flipGain_90 ?_
    refine r_aload0 (pc := 91) dX0_flipGain_91 ?_
    refine r_getf (pc := 92) fl_X0_12 dX0_flipGain_92 (bget0 rfl) rfl ?_
    refine r_getf (pc := 95) fl_X0_82 dX0_flipGain_95 (bget rfl) rfl ?_
    refine r_iload1 (pc := 98) dX0_flipGain_98 ?_
    refine r_callN2i (pc := 99) lk_X0_115 dX0_flipGain_99 (s_at (bget rfl) (by omega) (by decide) (hI.T hk)) (by decide) (Nat.le_of_ble_eq_true rfl) ⟨Nat.zero_le _, Nat.zero_le _⟩ ?_
    refine r_callV3i (pc := 102) lk_X0_134 dX0_flipGain_102 (bget0 rfl) (s_leastWith hI hZ (by omega) (by omega) (hZ.t hk)) (by decide) (Nat.le_of_ble_eq_true rfl) ⟨Nat.zero_le _, Nat.zero_le _⟩ ?_
    first | refine n_isubI (pc := 105) dX0_flipGain_105 ?_ | refine z_isub (pc := 105) dX0_flipGain_105 ?_ | refine r_isub (pc := 105) dX0_flipGain_105 ?_
    refine r_aload0 (pc := 106) dX0_flipGain_106 ?_
    refine r_iload5 (pc := 107) dX0_flipGain_107 ?_
    refine r_iload5 (pc := 109) dX0_flipGain_109 ?_
    refine r_iload6 (pc := 111) dX0_flipGain_111 ?_
    first | refine n_iadd (pc := 113) dX0_flipGain_113 ?_ | refine z_iadd (pc := 113) dX0_flipGain_113 ?_ | refine r_iadd (pc := 113) dX0_flipGain_113 ?_
    refine r_aload0 (pc := 114) dX0_flipGain_114 ?_
    refine r_getf (pc := 115) fl_X0_12 dX0_flipGain_115 (bget0 rfl) rfl ?_
    refine r_getf (pc := 118) fl_X0_82 dX0_flipGain_118 (bget rfl) rfl ?_
    refine r_iload2 (pc := 121) dX0_flipGain_121 ?_
    refine r_callN2i (pc := 122) lk_X0_115 dX0_flipGain_122 (s_at (bget rfl) (by omega) (by decide) (hI.T hl)) (by decide) (Nat.le_of_ble_eq_true rfl) ⟨Nat.zero_le _, Nat.zero_le _⟩ ?_
    refine r_callV3i (pc := 125) lk_X0_134 dX0_flipGain_125 (bget0 rfl) (s_leastWith hI hZ (by omega) (by omega) (hZ.t hl)) (by decide) (Nat.le_of_ble_eq_true rfl) ⟨Nat.zero_le _, Nat.zero_le _⟩ ?_
    first | refine n_isubI (pc := 128) dX0_flipGain_128 ?_ | refine z_isub (pc := 128) dX0_flipGain_128 ?_ | refine r_isub (pc := 128) dX0_flipGain_128 ?_
    exact r_ireturn (pc := 129) false rfl rfl rfl dX0_flipGain_129 (Nat.zero_le _) (Nat.zero_le _) (Or.inl rfl) rfl rfl rfl
  refine r_aload0 (pc := 0) dX0_flipGain_0 ?_
  refine r_iload1 (pc := 1) dX0_flipGain_1 ?_
  refine r_callV1i (pc := 2) lk_X0_119 dX0_flipGain_2 (bget0 rfl) (s_isAlongRow hI hZ hk) (by decide) (Nat.le_of_ble_eq_true rfl) ⟨Nat.zero_le _, Nat.zero_le _⟩ ?_
  refine r_istore3 (pc := 5) dX0_flipGain_5 rfl ?_
  refine r_aload0 (pc := 6) dX0_flipGain_6 ?_
  refine r_getf (pc := 7) fl_X0_12 dX0_flipGain_7 (bget0 rfl) rfl ?_
  refine r_getf (pc := 10) fl_X0_109 dX0_flipGain_10 (bget rfl) rfl ?_
  refine r_iload1 (pc := 13) dX0_flipGain_13 ?_
  refine r_callN2i (pc := 14) lk_X0_115 dX0_flipGain_14 (s_at (bget rfl) (by omega) (by decide) (hI.F hk)) (by decide) (Nat.le_of_ble_eq_true rfl) ⟨Nat.zero_le _, Nat.zero_le _⟩ ?_
  refine r_istore4 (pc := 17) dX0_flipGain_17 rfl ?_
  refine r_iload4 (pc := 19) dX0_flipGain_19 ?_
  refine r_iload3 (pc := 21) dX0_flipGain_21 ?_
  have f1 : fst2 z k = zF z k + (if al z k then 1 else zc z) := rfl
  have f2 : stp z k = (if al z k then zc z else 1) := rfl
  refine b_if_eq (pc := 22) 29 (by decide) dX0_flipGain_22 (fun h9 => ?_) (fun h9 => ?_)
  · refine r_aload0 (pc := 29) dX0_flipGain_29 ?_
    refine r_getf (pc := 30) fl_X0_96 dX0_flipGain_30 (bget0 rfl) rfl ?_
    rw [hI.c0]
    first | refine n_iadd (pc := 33) dX0_flipGain_33 ?_ | refine z_iadd (pc := 33) dX0_flipGain_33 ?_ | refine r_iadd (pc := 33) dX0_flipGain_33 ?_
    refine r_istore5 (pc := 34) dX0_flipGain_34 rfl ?_
    refine r_iload3 (pc := 36) dX0_flipGain_36 ?_
    refine b_if_eq (pc := 37) 47 (by decide) dX0_flipGain_37 (fun h8 => ?_) (fun h8 => by rw [h9] at h8; cases h8)
    refine n_iconst_1 (pc := 47) dX0_flipGain_47 ?_
    refine r_istore6 (pc := 48) dX0_flipGain_48 rfl ?_
    rw [h9] at f1 f2
    simp only [Bool.false_eq_true, if_false] at f1 f2
    rw [f1, f2] at fin; exact fin
  · refine n_iconst_1 (pc := 25) dX0_flipGain_25 ?_
    refine r_goto (pc := 26) 33 (by decide) dX0_flipGain_26 ?_
    first | refine n_iadd (pc := 33) dX0_flipGain_33 ?_ | refine z_iadd (pc := 33) dX0_flipGain_33 ?_ | refine r_iadd (pc := 33) dX0_flipGain_33 ?_
    refine r_istore5 (pc := 34) dX0_flipGain_34 rfl ?_
    refine r_iload3 (pc := 36) dX0_flipGain_36 ?_
    refine b_if_eq (pc := 37) 47 (by decide) dX0_flipGain_37 (fun h8 => by rw [h9] at h8; cases h8) (fun h8 => ?_)
    refine r_aload0 (pc := 40) dX0_flipGain_40 ?_
    refine r_getf (pc := 41) fl_X0_96 dX0_flipGain_41 (bget0 rfl) rfl ?_
    rw [hI.c0]
    refine r_goto (pc := 44) 48 (by decide) dX0_flipGain_44 ?_
    refine r_istore6 (pc := 48) dX0_flipGain_48 rfl ?_
    rw [h9] at f1 f2
    simp only [if_true] at f1 f2
    rw [f1, f2] at fin; exact fin
set_option maxRecDepth 20000 in
theorem s_errorOfAll (hI : InvB S z) (hZ : ZOK z) : Spec mX0_errorOfAll 4 0 0 [.ref b] (bset M b S) (some (.int (iI (erAll z)))) (bset M b S) := by
  have hd := hZ.dims
  refine Spec_of [some (.ref b), none, none] (by decide) (Nat.le_of_ble_eq_true rfl) rfl ?_
  refine n_iconst_0 (pc := 0) dX0_errorOfAll_0 ?_
  refine r_istore1 (pc := 1) dX0_errorOfAll_1 rfl ?_
  refine n_iconst_0 (pc := 2) dX0_errorOfAll_2 ?_
  refine r_istore2 (pc := 3) dX0_errorOfAll_3 rfl ?_
  refine up_to (N := zt z) (k := 0) (fun k => G mX0_errorOfAll 4 (.inl false) 0 0 (dT (some (.int (iI (erAll z)))) (bset M b S)) none 0 0 4 [some (.ref b), some (.int (iI (zS (er z) k))), some (.int (nI k))] [] (bset M b S)) ?_ (fun k hk ih => ?_) (Nat.zero_le _)
  · refine r_iload2 (pc := 4) dX0_errorOfAll_4 ?_
    refine r_aload0 (pc := 5) dX0_errorOfAll_5 ?_
    refine r_getf (pc := 6) fl_X0_75 dX0_errorOfAll_6 (bget0 rfl) rfl ?_
    rw [hI.c3]
    refine n_icmp_ge (pc := 9) 26 (by decide) dX0_errorOfAll_9 (by omega) (by omega) (fun hc9 => ?_) (fun hc9 => absurd hc9 (by omega))
    refine r_iload1 (pc := 26) dX0_errorOfAll_26 ?_
    exact r_ireturn (pc := 27) false rfl rfl rfl dX0_errorOfAll_27 (Nat.zero_le _) (Nat.zero_le _) (Or.inl rfl) rfl rfl rfl
  · refine r_iload2 (pc := 4) dX0_errorOfAll_4 ?_
    refine r_aload0 (pc := 5) dX0_errorOfAll_5 ?_
    refine r_getf (pc := 6) fl_X0_75 dX0_errorOfAll_6 (bget0 rfl) rfl ?_
    rw [hI.c3]
    refine n_icmp_ge (pc := 9) 26 (by decide) dX0_errorOfAll_9 (by omega) (by omega) (fun hc9 => absurd hc9 (by omega)) (fun hc9 => ?_)
    refine r_iload1 (pc := 12) dX0_errorOfAll_12 ?_
    refine r_aload0 (pc := 13) dX0_errorOfAll_13 ?_
    refine r_iload2 (pc := 14) dX0_errorOfAll_14 ?_
    refine r_callV1i (pc := 15) lk_X0_138 dX0_errorOfAll_15 (bget0 rfl) (s_errorAt hI hZ hk) (by decide) (Nat.le_of_ble_eq_true rfl) ⟨Nat.zero_le _, Nat.zero_le _⟩ ?_
    first | refine n_iadd (pc := 18) dX0_errorOfAll_18 ?_ | refine z_iadd (pc := 18) dX0_errorOfAll_18 ?_ | refine r_iadd (pc := 18) dX0_errorOfAll_18 ?_
    refine r_istore1 (pc := 19) dX0_errorOfAll_19 rfl ?_
    refine n_iinc2 (pc := 20) dX0_errorOfAll_20 rfl ?_
    refine r_goto (pc := 23) 4 (by decide) dX0_errorOfAll_23 ?_
    exact ih
set_option maxRecDepth 20000 in
theorem s_placesAlongRows (hI : InvB S z) (hZ : ZOK z) : Spec mX0_placesAlongRows 3 0 0 [.ref b] (bset M b S) (some (.int (nI (zN (al z) (zt z))))) (bset M b S) := by
  have hd := hZ.dims
  refine Spec_of [some (.ref b), none, none] (by decide) (Nat.le_of_ble_eq_true rfl) rfl ?_
  refine n_iconst_0 (pc := 0) dX0_placesAlongRows_0 ?_
  refine r_istore1 (pc := 1) dX0_placesAlongRows_1 rfl ?_
  refine n_iconst_0 (pc := 2) dX0_placesAlongRows_2 ?_
  refine r_istore2 (pc := 3) dX0_placesAlongRows_3 rfl ?_
  refine up_to (N := zt z) (k := 0) (fun k => G mX0_placesAlongRows 3 (.inl false) 0 0 (dT (some (.int (nI (zN (al z) (zt z))))) (bset M b S)) none 0 0 4 [some (.ref b), some (.int (nI (zN (al z) k))), some (.int (nI k))] [] (bset M b S)) ?_ (fun k hk ih => ?_) (Nat.zero_le _)
  · refine r_iload2 (pc := 4) dX0_placesAlongRows_4 ?_
    refine r_aload0 (pc := 5) dX0_placesAlongRows_5 ?_
    refine r_getf (pc := 6) fl_X0_75 dX0_placesAlongRows_6 (bget0 rfl) rfl ?_
    rw [hI.c3]
    refine n_icmp_ge (pc := 9) 34 (by decide) dX0_placesAlongRows_9 (by omega) (by omega) (fun hc9 => ?_) (fun hc9 => absurd hc9 (by omega))
    refine r_iload1 (pc := 34) dX0_placesAlongRows_34 ?_
    exact r_ireturn (pc := 35) false rfl rfl rfl dX0_placesAlongRows_35 (Nat.zero_le _) (Nat.zero_le _) (Or.inl rfl) rfl rfl rfl
  · refine r_iload2 (pc := 4) dX0_placesAlongRows_4 ?_
    refine r_aload0 (pc := 5) dX0_placesAlongRows_5 ?_
    refine r_getf (pc := 6) fl_X0_75 dX0_placesAlongRows_6 (bget0 rfl) rfl ?_
    rw [hI.c3]
    refine n_icmp_ge (pc := 9) 34 (by decide) dX0_placesAlongRows_9 (by omega) (by omega) (fun hc9 => absurd hc9 (by omega)) (fun hc9 => ?_)
    refine r_iload1 (pc := 12) dX0_placesAlongRows_12 ?_
    refine r_aload0 (pc := 13) dX0_placesAlongRows_13 ?_
    refine r_iload2 (pc := 14) dX0_placesAlongRows_14 ?_
    refine r_callV1i (pc := 15) lk_X0_119 dX0_placesAlongRows_15 (bget0 rfl) (s_isAlongRow hI hZ hk) (by decide) (Nat.le_of_ble_eq_true rfl) ⟨Nat.zero_le _, Nat.zero_le _⟩ ?_
    have e : zN (al z) (k + 1) = zN (al z) k + (if al z k then 1 else 0) := rfl
    refine b_if_eq (pc := 18) 25 (by decide) dX0_placesAlongRows_18 (fun h9 => ?_) (fun h9 => ?_)
    · refine n_iconst_0 (pc := 25) dX0_placesAlongRows_25 ?_
      first | refine n_iadd (pc := 26) dX0_placesAlongRows_26 ?_ | refine z_iadd (pc := 26) dX0_placesAlongRows_26 ?_ | refine r_iadd (pc := 26) dX0_placesAlongRows_26 ?_
      refine r_istore1 (pc := 27) dX0_placesAlongRows_27 rfl ?_
      refine n_iinc2 (pc := 28) dX0_placesAlongRows_28 rfl ?_
      refine r_goto (pc := 31) 4 (by decide) dX0_placesAlongRows_31 ?_
      rw [e, h9] at ih; exact ih
    · refine n_iconst_1 (pc := 21) dX0_placesAlongRows_21 ?_
      refine r_goto (pc := 22) 26 (by decide) dX0_placesAlongRows_22 ?_
      first | refine n_iadd (pc := 26) dX0_placesAlongRows_26 ?_ | refine z_iadd (pc := 26) dX0_placesAlongRows_26 ?_ | refine r_iadd (pc := 26) dX0_placesAlongRows_26 ?_
      refine r_istore1 (pc := 27) dX0_placesAlongRows_27 rfl ?_
      refine n_iinc2 (pc := 28) dX0_placesAlongRows_28 rfl ?_
      refine r_goto (pc := 31) 4 (by decide) dX0_placesAlongRows_31 ?_
      rw [e, h9] at ih; exact ih
set_option maxRecDepth 20000 in
theorem s_blocks (hI : InvB S z) (hZ : ZOK z) : Spec mX0_blocks 4 0 0 [.ref b] (bset M b S) (some (.int (nI (zN (fun k => (part z k).isSome) (zt z))))) (bset M b S) := by
  have hd := hZ.dims
  refine Spec_of [some (.ref b), none, none] (by decide) (Nat.le_of_ble_eq_true rfl) rfl ?_
  refine n_iconst_0 (pc := 0) dX0_blocks_0 ?_
  refine r_istore1 (pc := 1) dX0_blocks_1 rfl ?_
  refine n_iconst_0 (pc := 2) dX0_blocks_2 ?_
  refine r_istore2 (pc := 3) dX0_blocks_3 rfl ?_
  refine up_to (N := zt z) (k := 0) (fun k => G mX0_blocks 4 (.inl false) 0 0 (dT (some (.int (nI (zN (fun k => (part z k).isSome) (zt z))))) (bset M b S)) none 0 0 4 [some (.ref b), some (.int (nI (zN (fun k => (part z k).isSome) k))), some (.int (nI k))] [] (bset M b S)) ?_ (fun k hk ih => ?_) (Nat.zero_le _)
  · refine r_iload2 (pc := 4) dX0_blocks_4 ?_
    refine r_aload0 (pc := 5) dX0_blocks_5 ?_
    refine r_getf (pc := 6) fl_X0_75 dX0_blocks_6 (bget0 rfl) rfl ?_
    rw [hI.c3]
    refine n_icmp_ge (pc := 9) 35 (by decide) dX0_blocks_9 (by omega) (by omega) (fun hc9 => ?_) (fun hc9 => absurd hc9 (by omega))
    refine r_iload1 (pc := 35) dX0_blocks_35 ?_
    exact r_ireturn (pc := 36) false rfl rfl rfl dX0_blocks_36 (Nat.zero_le _) (Nat.zero_le _) (Or.inl rfl) rfl rfl rfl
  · refine r_iload2 (pc := 4) dX0_blocks_4 ?_
    refine r_aload0 (pc := 5) dX0_blocks_5 ?_
    refine r_getf (pc := 6) fl_X0_75 dX0_blocks_6 (bget0 rfl) rfl ?_
    rw [hI.c3]
    refine n_icmp_ge (pc := 9) 35 (by decide) dX0_blocks_9 (by omega) (by omega) (fun hc9 => absurd hc9 (by omega)) (fun hc9 => ?_)
    refine r_iload1 (pc := 12) dX0_blocks_12 ?_
    refine r_aload0 (pc := 13) dX0_blocks_13 ?_
    refine r_iload2 (pc := 14) dX0_blocks_14 ?_
    refine r_callV1i (pc := 15) lk_X0_184 dX0_blocks_15 (bget0 rfl) (s_partner hI hZ hk) (by decide) (Nat.le_of_ble_eq_true rfl) ⟨Nat.zero_le _, Nat.zero_le _⟩ ?_
    refine r_iconst_m1 (pc := 18) dX0_blocks_18 ?_
    have e : zN (fun k => (part z k).isSome) (k + 1) = zN (fun k => (part z k).isSome) k + (if (part z k).isSome then 1 else 0) := rfl
    cases hp : part z k with
    | none =>
      refine r_icmp_eq (pc := 19) 26 (by decide) dX0_blocks_19 (fun _ => ?_) (fun h9 => absurd rfl h9)
      refine n_iconst_0 (pc := 26) dX0_blocks_26 ?_
      first | refine n_iadd (pc := 27) dX0_blocks_27 ?_ | refine z_iadd (pc := 27) dX0_blocks_27 ?_ | refine r_iadd (pc := 27) dX0_blocks_27 ?_
      refine r_istore1 (pc := 28) dX0_blocks_28 rfl ?_
      refine n_iinc2 (pc := 29) dX0_blocks_29 rfl ?_
      refine r_goto (pc := 32) 4 (by decide) dX0_blocks_32 ?_
      rw [e, hp] at ih; exact ih
    | some l =>
      have hl := part_lt hZ hp
      refine r_icmp_eq (pc := 19) 26 (by decide) dX0_blocks_19 (fun h9 => absurd h9 (nI_ne_m1 (by omega))) (fun _ => ?_)
      refine n_iconst_1 (pc := 22) dX0_blocks_22 ?_
      refine r_goto (pc := 23) 27 (by decide) dX0_blocks_23 ?_
      first | refine n_iadd (pc := 27) dX0_blocks_27 ?_ | refine z_iadd (pc := 27) dX0_blocks_27 ?_ | refine r_iadd (pc := 27) dX0_blocks_27 ?_
      refine r_istore1 (pc := 28) dX0_blocks_28 rfl ?_
      refine n_iinc2 (pc := 29) dX0_blocks_29 rfl ?_
      refine r_goto (pc := 32) 4 (by decide) dX0_blocks_32 ?_
      rw [e, hp] at ih; exact ih
set_option maxRecDepth 20000 in
theorem s_markedU (hI : InvB S z) (hZ : ZOK z) : Spec mX0_marked 3 0 0 [.ref b, .ref (b + 6)] (bset M b S) (some (.int (nI (zM (zU z) (zt z))))) (bset M b S) := by
  have hd := hZ.dims
  refine Spec_of [some (.ref b), some (.ref (b + 6)), none, none] (by decide) (Nat.le_of_ble_eq_true rfl) rfl ?_
  refine n_iconst_0 (pc := 0) dX0_marked_0 ?_
  refine r_istore2 (pc := 1) dX0_marked_1 rfl ?_
  refine n_iconst_0 (pc := 2) dX0_marked_2 ?_
  refine r_istore3 (pc := 3) dX0_marked_3 rfl ?_
  refine up_to (N := zt z) (k := 0) (fun k => G mX0_marked 3 (.inl false) 0 0 (dT (some (.int (nI (zM (zU z) (zt z))))) (bset M b S)) none 0 0 4 [some (.ref b), some (.ref (b + 6)), some (.int (nI (zM (zU z) k))), some (.int (nI k))] [] (bset M b S)) ?_ (fun k hk ih => ?_) (Nat.zero_le _)
  · refine r_iload3 (pc := 4) dX0_marked_4 ?_
    refine r_aload0 (pc := 5) dX0_marked_5 ?_
    refine r_getf (pc := 6) fl_X0_75 dX0_marked_6 (bget0 rfl) rfl ?_
    rw [hI.c3]
    refine n_icmp_ge (pc := 9) 26 (by decide) dX0_marked_9 (by omega) (by omega) (fun hc9 => ?_) (fun hc9 => absurd hc9 (by omega))
    refine r_iload2 (pc := 26) dX0_marked_26 ?_
    exact r_ireturn (pc := 27) false rfl rfl rfl dX0_marked_27 (Nat.zero_le _) (Nat.zero_le _) (Or.inl rfl) rfl rfl rfl
  · refine r_iload3 (pc := 4) dX0_marked_4 ?_
    refine r_aload0 (pc := 5) dX0_marked_5 ?_
    refine r_getf (pc := 6) fl_X0_75 dX0_marked_6 (bget0 rfl) rfl ?_
    rw [hI.c3]
    refine n_icmp_ge (pc := 9) 26 (by decide) dX0_marked_9 (by omega) (by omega) (fun hc9 => absurd hc9 (by omega)) (fun hc9 => ?_)
    refine r_iload2 (pc := 12) dX0_marked_12 ?_
    refine r_aload1 (pc := 13) dX0_marked_13 ?_
    refine r_iload3 (pc := 14) dX0_marked_14 ?_
    refine r_callN2i (pc := 15) lk_X0_115 dX0_marked_15 (s_at (bget rfl) (by omega) (by decide) (hI.U hk)) (by decide) (Nat.le_of_ble_eq_true rfl) ⟨Nat.zero_le _, Nat.zero_le _⟩ ?_
    first | refine n_iadd (pc := 18) dX0_marked_18 ?_ | refine z_iadd (pc := 18) dX0_marked_18 ?_ | refine r_iadd (pc := 18) dX0_marked_18 ?_
    refine r_istore2 (pc := 19) dX0_marked_19 rfl ?_
    refine n_iinc3 (pc := 20) dX0_marked_20 rfl ?_
    refine r_goto (pc := 23) 4 (by decide) dX0_marked_23 ?_
    exact ih
set_option maxRecDepth 20000 in
theorem s_markedH (hI : InvB S z) (hZ : ZOK z) : Spec mX0_marked 3 0 0 [.ref b, .ref (b + 7)] (bset M b S) (some (.int (nI (zM (zH z) (zt z))))) (bset M b S) := by
  have hd := hZ.dims
  refine Spec_of [some (.ref b), some (.ref (b + 7)), none, none] (by decide) (Nat.le_of_ble_eq_true rfl) rfl ?_
  refine n_iconst_0 (pc := 0) dX0_marked_0 ?_
  refine r_istore2 (pc := 1) dX0_marked_1 rfl ?_
  refine n_iconst_0 (pc := 2) dX0_marked_2 ?_
  refine r_istore3 (pc := 3) dX0_marked_3 rfl ?_
  refine up_to (N := zt z) (k := 0) (fun k => G mX0_marked 3 (.inl false) 0 0 (dT (some (.int (nI (zM (zH z) (zt z))))) (bset M b S)) none 0 0 4 [some (.ref b), some (.ref (b + 7)), some (.int (nI (zM (zH z) k))), some (.int (nI k))] [] (bset M b S)) ?_ (fun k hk ih => ?_) (Nat.zero_le _)
  · refine r_iload3 (pc := 4) dX0_marked_4 ?_
    refine r_aload0 (pc := 5) dX0_marked_5 ?_
    refine r_getf (pc := 6) fl_X0_75 dX0_marked_6 (bget0 rfl) rfl ?_
    rw [hI.c3]
    refine n_icmp_ge (pc := 9) 26 (by decide) dX0_marked_9 (by omega) (by omega) (fun hc9 => ?_) (fun hc9 => absurd hc9 (by omega))
    refine r_iload2 (pc := 26) dX0_marked_26 ?_
    exact r_ireturn (pc := 27) false rfl rfl rfl dX0_marked_27 (Nat.zero_le _) (Nat.zero_le _) (Or.inl rfl) rfl rfl rfl
  · refine r_iload3 (pc := 4) dX0_marked_4 ?_
    refine r_aload0 (pc := 5) dX0_marked_5 ?_
    refine r_getf (pc := 6) fl_X0_75 dX0_marked_6 (bget0 rfl) rfl ?_
    rw [hI.c3]
    refine n_icmp_ge (pc := 9) 26 (by decide) dX0_marked_9 (by omega) (by omega) (fun hc9 => absurd hc9 (by omega)) (fun hc9 => ?_)
    refine r_iload2 (pc := 12) dX0_marked_12 ?_
    refine r_aload1 (pc := 13) dX0_marked_13 ?_
    refine r_iload3 (pc := 14) dX0_marked_14 ?_
    refine r_callN2i (pc := 15) lk_X0_115 dX0_marked_15 (s_at (bget rfl) (by omega) (by decide) (hI.H hk)) (by decide) (Nat.le_of_ble_eq_true rfl) ⟨Nat.zero_le _, Nat.zero_le _⟩ ?_
    first | refine n_iadd (pc := 18) dX0_marked_18 ?_ | refine z_iadd (pc := 18) dX0_marked_18 ?_ | refine r_iadd (pc := 18) dX0_marked_18 ?_
    refine r_istore2 (pc := 19) dX0_marked_19 rfl ?_
    refine n_iinc3 (pc := 20) dX0_marked_20 rfl ?_
    refine r_goto (pc := 23) 4 (by decide) dX0_marked_23 ?_
    exact ih
end BREAD3

theorem SpecP_mono {q : MI} {d mc ms : Nat} {as : List Value} {M : Mem} {oc oc' : TG} (h : SpecP q d mc ms as M oc) (hq : ∀ v M', oc v M' → oc' v M') : SpecP q d mc ms as M oc' := by
  intro l D nx ad ca sz hl p e ha9 hc hk s m args below hf happ hp hk'
  obtain ⟨n, o, h1, h2, h3, ⟨⟨v, M', e1, e2, e3, e4⟩, e5⟩, e6⟩ := h l D nx ad ca sz hl p e ha9 hc hk s m args below hf happ hp hk'
  exact ⟨n, o, h1, h2, h3, ⟨⟨v, M', hq _ _ e1, e2, e3, e4⟩, e5⟩, e6⟩
theorem lt_nI {x : Int32} {a : Nat} (h : a < 2147483648) : x < nI a ↔ x.toInt < (a : Int) := by rw [Int32.lt_iff_toInt_lt, nI_toInt h]
theorem le_nI {x : Int32} {a : Nat} (h : a < 2147483648) : x ≤ nI a ↔ x.toInt ≤ (a : Int) := by rw [Int32.le_iff_toInt_le, nI_toInt h]
theorem gt_nI {x : Int32} {a : Nat} (h : a < 2147483648) : nI a < x ↔ (a : Int) < x.toInt := by rw [Int32.lt_iff_toInt_lt, nI_toInt h]
theorem ge_nI {x : Int32} {a : Nat} (h : a < 2147483648) : nI a ≤ x ↔ (a : Int) ≤ x.toInt := by rw [Int32.le_iff_toInt_le, nI_toInt h]
theorem inB_le {x : Int32} {a b : Nat} (h : inB x a b = false) (ha9 : a < 2147483648) (hb9 : b < 2147483648) (h1 : ¬ x < nI a) : ¬ x ≤ nI b := by
  rw [lt_nI ha9] at h1
  rw [le_nI hb9]
  intro h2
  have h := of_decide_eq_false h
  exact h ⟨by omega, h2⟩
theorem inB_lt {x : Int32} {a b : Nat} (h : inB x a b = false) (ha9 : a < 2147483648) (hb9 : b < 2147483648) (h1 : ¬ x < nI a) : nI b < x := by
  have h2 := inB_le h ha9 hb9 h1
  rw [le_nI hb9] at h2
  rw [gt_nI hb9]
  omega
theorem inR_le {x : Int32} {n : Nat} (h : inR x n = false) (hn : n < 2147483648) (h1 : ¬ x < 0) : ¬ x < nI n := by
  have h1 : ¬ x < nI 0 := h1
  rw [lt_nI (by decide)] at h1
  rw [lt_nI hn]
  intro h2
  have h := of_decide_eq_false h
  exact h ⟨by omega, h2⟩
theorem inR_no {x : Int32} {n : Nat} (h : inR x n = false) : x.toInt < 0 ∨ (n : Int) - 1 < x.toInt := by
  have h := of_decide_eq_false h
  by_cases c : x.toInt < 0
  · exact Or.inl c
  · exact Or.inr (by
      by_cases c2 : x.toInt < (n : Int)
      · exact absurd ⟨by omega, c2⟩ h
      · omega)
theorem nm_nI {k : Nat} (h : k < 2147483648) : nm (nI k) = k := by
  unfold nm
  rw [nI_toInt h, Int.toNat_natCast]
theorem tset_out {M : Mem} {t n i : Nat} {g : Nat → Int32} (h1 : i ≠ t) (h2 : i ≠ t + 1) : tset M t n g i = M i := by
  unfold tset
  rw [mset_ne h1, mset_ne h2]
section CFACE
variable {M : Mem} {w : WS}

set_option maxRecDepth 20000 in
theorem s7_append (hF : FACE M w) (hO : WOK w) {x : Int32} : SpecX mX7_append 8 1 6 [.ref 0, .int x] M (tFc [xIAE, xISE] M (A_append x w)) := by
  have hZ := hO.z
  have hd := hZ.dims
  have hn120 := hO.2.2.2.1
  have hk14 := hO.2.1.1
  have h0 : M 0 = some (cO 6 [.ref 1, .ref 23, .ref 45, .ref 145, .ref 162]) := hF.1
  have hX : TXT M 162 (wn w) (wf w) := hF.2.2.2.2.2
  refine SpecX_of [some (.ref 0), some (.int x)] (by decide) (Nat.le_of_ble_eq_true rfl) rfl ?_
  have no : A_append x w = rN 1 w →
    G mX7_append 8 (.inl true) 1 6 (tFc [xIAE, xISE] M (A_append x w)) none 0 0 11 [some (.ref 0), some (.int x)] [] M
    := by
    intro e
    exact G_throw (pc := 11) 10 rfl rfl th_44 rfl dX7_append_11 dX7_append_14 dX7_append_15 dX7_append_17 dX7_append_20 (by decide) (by decide) (by decide) (tFx 0 e hF rfl)
  cases hc : inB x 0 255 with
  | false =>
    have ea : A_append x w = rN 1 w := by unfold A_append; rw [hc]; rfl
    refine r_iload1 (pc := 0) dX7_append_0 ?_
    refine r_if_lt (pc := 1) 11 (by decide) dX7_append_1 (fun _ => no ea) (fun q1 => ?_)
    refine r_iload1 (pc := 4) dX7_append_4 ?_
    refine n_sipush (pc := 5) 255 (by decide) dX7_append_5 ?_
    exact r_icmp_le (pc := 8) 21 (by decide) dX7_append_8 (fun q2 => absurd q2 (inB_le hc (by decide) (by decide) q1)) (fun _ => no ea)
  | true =>
    obtain ⟨c1, c2, c3⟩ := inB_ex hc (by decide)
    have ea : A_append x w = if wn w = 120 then rN 2 w else rO (nI (wn w + 1)) (w.1, w.2.1, w.2.2.1, wn w + 1, ups (wf w) (wn w) (nm x)) := by unfold A_append; rw [hc]; rfl
    generalize nm x = k at *
    subst c3
    have hX0 := hX
    obtain ⟨h1, h2, g, h3, h4, h5⟩ := hX0
    refine r_iload1 (pc := 0) dX7_append_0 ?_
    refine n_if_lt (pc := 1) 11 (by decide) dX7_append_1 (by omega) ?_
    refine r_iload1 (pc := 4) dX7_append_4 ?_
    refine n_sipush (pc := 5) 255 (by decide) dX7_append_5 ?_
    refine n_icmp_le (pc := 8) 21 (by decide) dX7_append_8 (by omega) (by omega) (fun hc8 => ?_) (fun hc8 => absurd hc8 (by omega))
    refine r_aload0 (pc := 21) dX7_append_21 ?_
    refine r_getf (pc := 22) fl_X7_36 dX7_append_22 h0 rfl ?_
    refine r_callV0i (pc := 25) lk_X7_51 dX7_append_25 h3 (s_isFull hX) (by decide) (Nat.le_of_ble_eq_true rfl) ⟨Nat.zero_le _, Nat.zero_le _⟩ ?_
    refine b_if_eq (pc := 28) 41 (by decide) dX7_append_28 (fun h9 => ?_) (fun h9 => ?_)
    · have h9 := of_decide_eq_false h9
      rw [if_neg (by omega)] at ea
      refine r_aload0 (pc := 41) dX7_append_41 ?_
      refine r_getf (pc := 42) fl_X7_36 dX7_append_42 h0 rfl ?_
      refine r_iload1 (pc := 45) dX7_append_45 ?_
      refine r_callV1w (pc := 46) lk_X7_60 dX7_append_46 h3 (s_add hX (by omega) (c := k) (by omega))  (by decide) (Nat.le_of_ble_eq_true rfl) ⟨Nat.zero_le _, Nat.zero_le _⟩ (fun M9 h9 => ?_)
      obtain ⟨g', rfl, hX'⟩ := h9
      have h0' : tset M 162 (wn w + 1) g' 0 = some (cO 6 [.ref 1, .ref 23, .ref 45, .ref 145, .ref 162]) := by rw [tset_out (by decide) (by decide)]; exact h0
      have h3' : tset M 162 (wn w + 1) g' 162 = some (cO 5 [.ref (162 + 1), .int (nI (wn w + 1))]) := mset_same
      refine r_aload0 (pc := 49) dX7_append_49 ?_
      refine r_getf (pc := 50) fl_X7_36 dX7_append_50 h0' rfl ?_
      refine r_getf (pc := 53) fl_X7_64 dX7_append_53 h3' rfl ?_
      exact p_ireturn (pc := 56) true rfl rfl rfl dX7_append_56 (Nat.zero_le _) (Nat.zero_le _) (Or.inl rfl) (tFo ea (FACE.text hF (fun i a b => tset_out a b) hX') (fun i hi => tset_out (by omega) (by omega)))
    · have h9 := of_decide_eq_true h9
      rw [if_pos (by omega)] at ea
      exact G_throw (pc := 31) 11 rfl rfl th_55 rfl dX7_append_31 dX7_append_34 dX7_append_35 dX7_append_37 dX7_append_40 (by decide) (by decide) (by decide) (tFx 1 ea hF rfl)
set_option maxRecDepth 20000 in
theorem s7_about (hF : FACE M w) (hO : WOK w) {x : Int32} : SpecX mX7_about 8 1 6 [.ref 0, .int x] M (tFc [xIAE] M (A_about x w)) := by
  have hZ := hO.z
  have hd := hZ.dims
  have hn120 := hO.2.2.2.1
  have hk14 := hO.2.1.1
  obtain ⟨M, S, rfl, hI⟩ := hF.board
  have h0 : (bset M 1 S) 0 = some (cO 6 [.ref 1, .ref 23, .ref 45, .ref 145, .ref 162]) := hF.1
  have hX : TXT (bset M 1 S) 162 (wn w) (wf w) := hF.2.2.2.2.2
  refine SpecX_of [some (.ref 0), some (.int x)] (by decide) (Nat.le_of_ble_eq_true rfl) rfl ?_
  cases hc : inR x 11 with
  | false =>
    have ea : A_about x w = rN 1 w := by unfold A_about; rw [hc]; rfl
    refine r_iload1 (pc := 0) dX7_about_0 ?_
    refine r_tableOut (pc := 1) 177 (inR_no hc) (by decide) dX7_about_1 ?_
    exact G_throw (pc := 177) 13 rfl rfl th_44 rfl dX7_about_177 dX7_about_180 dX7_about_181 dX7_about_183 dX7_about_186 (by decide) (by decide) (by decide) (tFx 0 ea hF rfl)
  | true =>
    obtain ⟨c1, c2⟩ := inR_nm hc (by decide)
    have ea : A_about x w = rO (aboZ (wz w) (nm x)) w := by unfold A_about; rw [hc]; rfl
    generalize nm x = k at *
    subst c2
    have c : k = 0 ∨ k = 1 ∨ k = 2 ∨ k = 3 ∨ k = 4 ∨ k = 5 ∨ k = 6 ∨ k = 7 ∨ k = 8 ∨ k = 9 ∨ k = 10 := by omega
    rcases c with c | c | c | c | c | c | c | c | c | c | c <;> subst c
    · refine r_iload1 (pc := 0) dX7_about_0 ?_
      refine r_tableIn (pc := 1) 60 (by decide) (by decide) rfl (by decide) dX7_about_1 ?_
      refine r_aload0 (pc := 60) dX7_about_60 ?_
      refine r_getf (pc := 61) fl_X7_10 dX7_about_61 h0 rfl ?_
      refine r_getf (pc := 64) fl_X7_101 dX7_about_64 (bget0 rfl) rfl ?_
      refine r_getf (pc := 67) fl_X7_105 dX7_about_67 (bget rfl) rfl ?_
      rw [hI.c4]
      exact p_ireturn (pc := 70) true rfl rfl rfl dX7_about_70 (Nat.zero_le _) (Nat.zero_le _) (Or.inl rfl) (tFo ea hF (fun _ _ => rfl))
    · refine r_iload1 (pc := 0) dX7_about_0 ?_
      refine r_tableIn (pc := 1) 71 (by decide) (by decide) rfl (by decide) dX7_about_1 ?_
      refine r_aload0 (pc := 71) dX7_about_71 ?_
      refine r_getf (pc := 72) fl_X7_10 dX7_about_72 h0 rfl ?_
      refine r_getf (pc := 75) fl_X7_101 dX7_about_75 (bget0 rfl) rfl ?_
      refine r_getf (pc := 78) fl_X7_110 dX7_about_78 (bget rfl) rfl ?_
      rw [hI.c5]
      exact p_ireturn (pc := 81) true rfl rfl rfl dX7_about_81 (Nat.zero_le _) (Nat.zero_le _) (Or.inl rfl) (tFo ea hF (fun _ _ => rfl))
    · refine r_iload1 (pc := 0) dX7_about_0 ?_
      refine r_tableIn (pc := 1) 82 (by decide) (by decide) rfl (by decide) dX7_about_1 ?_
      refine r_aload0 (pc := 82) dX7_about_82 ?_
      refine r_getf (pc := 83) fl_X7_10 dX7_about_83 h0 rfl ?_
      refine r_getf (pc := 86) fl_X7_113 dX7_about_86 (bget0 rfl) rfl ?_
      rw [hI.c0]
      exact p_ireturn (pc := 89) true rfl rfl rfl dX7_about_89 (Nat.zero_le _) (Nat.zero_le _) (Or.inl rfl) (tFo ea hF (fun _ _ => rfl))
    · refine r_iload1 (pc := 0) dX7_about_0 ?_
      refine r_tableIn (pc := 1) 90 (by decide) (by decide) rfl (by decide) dX7_about_1 ?_
      refine r_aload0 (pc := 90) dX7_about_90 ?_
      refine r_getf (pc := 91) fl_X7_10 dX7_about_91 h0 rfl ?_
      refine r_getf (pc := 94) fl_X7_116 dX7_about_94 (bget0 rfl) rfl ?_
      rw [hI.c1]
      exact p_ireturn (pc := 97) true rfl rfl rfl dX7_about_97 (Nat.zero_le _) (Nat.zero_le _) (Or.inl rfl) (tFo ea hF (fun _ _ => rfl))
    · refine r_iload1 (pc := 0) dX7_about_0 ?_
      refine r_tableIn (pc := 1) 98 (by decide) (by decide) rfl (by decide) dX7_about_1 ?_
      refine r_aload0 (pc := 98) dX7_about_98 ?_
      refine r_getf (pc := 99) fl_X7_10 dX7_about_99 h0 rfl ?_
      refine r_getf (pc := 102) fl_X7_119 dX7_about_102 (bget0 rfl) rfl ?_
      rw [hI.c3]
      exact p_ireturn (pc := 105) true rfl rfl rfl dX7_about_105 (Nat.zero_le _) (Nat.zero_le _) (Or.inl rfl) (tFo ea hF (fun _ _ => rfl))
    · refine r_iload1 (pc := 0) dX7_about_0 ?_
      refine r_tableIn (pc := 1) 106 (by decide) (by decide) rfl (by decide) dX7_about_1 ?_
      refine r_aload0 (pc := 106) dX7_about_106 ?_
      refine r_getf (pc := 107) fl_X7_10 dX7_about_107 h0 rfl ?_
      refine r_callV0i (pc := 110) lk_X7_122 dX7_about_110 (bget0 rfl) (s_errorOfAll hI hZ) (by decide) (Nat.le_of_ble_eq_true rfl) ⟨Nat.zero_le _, Nat.zero_le _⟩ ?_
      exact p_ireturn (pc := 113) true rfl rfl rfl dX7_about_113 (Nat.zero_le _) (Nat.zero_le _) (Or.inl rfl) (tFo ea hF (fun _ _ => rfl))
    · refine r_iload1 (pc := 0) dX7_about_0 ?_
      refine r_tableIn (pc := 1) 114 (by decide) (by decide) rfl (by decide) dX7_about_1 ?_
      refine r_aload0 (pc := 114) dX7_about_114 ?_
      refine r_getf (pc := 115) fl_X7_10 dX7_about_115 h0 rfl ?_
      refine r_callV0i (pc := 118) lk_X7_125 dX7_about_118 (bget0 rfl) (s_placesAlongRows hI hZ) (by decide) (Nat.le_of_ble_eq_true rfl) ⟨Nat.zero_le _, Nat.zero_le _⟩ ?_
      exact p_ireturn (pc := 121) true rfl rfl rfl dX7_about_121 (Nat.zero_le _) (Nat.zero_le _) (Or.inl rfl) (tFo ea hF (fun _ _ => rfl))
    · refine r_iload1 (pc := 0) dX7_about_0 ?_
      refine r_tableIn (pc := 1) 122 (by decide) (by decide) rfl (by decide) dX7_about_1 ?_
      refine r_aload0 (pc := 122) dX7_about_122 ?_
      refine r_getf (pc := 123) fl_X7_10 dX7_about_123 h0 rfl ?_
      refine r_aload0 (pc := 126) dX7_about_126 ?_
      refine r_getf (pc := 127) fl_X7_10 dX7_about_127 h0 rfl ?_
      refine r_getf (pc := 130) fl_X7_101 dX7_about_130 (bget0 rfl) rfl ?_
      refine r_getf (pc := 133) fl_X7_128 dX7_about_133 (bget rfl) rfl ?_
      refine r_callV1i (pc := 136) lk_X7_132 dX7_about_136 (bget0 rfl) (s_markedU hI hZ) (by decide) (Nat.le_of_ble_eq_true rfl) ⟨Nat.zero_le _, Nat.zero_le _⟩ ?_
      exact p_ireturn (pc := 139) true rfl rfl rfl dX7_about_139 (Nat.zero_le _) (Nat.zero_le _) (Or.inl rfl) (tFo ea hF (fun _ _ => rfl))
    · refine r_iload1 (pc := 0) dX7_about_0 ?_
      refine r_tableIn (pc := 1) 140 (by decide) (by decide) rfl (by decide) dX7_about_1 ?_
      refine r_aload0 (pc := 140) dX7_about_140 ?_
      refine r_getf (pc := 141) fl_X7_10 dX7_about_141 h0 rfl ?_
      refine r_aload0 (pc := 144) dX7_about_144 ?_
      refine r_getf (pc := 145) fl_X7_10 dX7_about_145 h0 rfl ?_
      refine r_getf (pc := 148) fl_X7_101 dX7_about_148 (bget0 rfl) rfl ?_
      refine r_getf (pc := 151) fl_X7_136 dX7_about_151 (bget rfl) rfl ?_
      refine r_callV1i (pc := 154) lk_X7_132 dX7_about_154 (bget0 rfl) (s_markedH hI hZ) (by decide) (Nat.le_of_ble_eq_true rfl) ⟨Nat.zero_le _, Nat.zero_le _⟩ ?_
      exact p_ireturn (pc := 157) true rfl rfl rfl dX7_about_157 (Nat.zero_le _) (Nat.zero_le _) (Or.inl rfl) (tFo ea hF (fun _ _ => rfl))
    · refine r_iload1 (pc := 0) dX7_about_0 ?_
      refine r_tableIn (pc := 1) 158 (by decide) (by decide) rfl (by decide) dX7_about_1 ?_
      refine r_aload0 (pc := 158) dX7_about_158 ?_
      refine r_getf (pc := 159) fl_X7_10 dX7_about_159 h0 rfl ?_
      refine r_callV0i (pc := 162) lk_X7_139 dX7_about_162 (bget0 rfl) (s_blocks hI hZ) (by decide) (Nat.le_of_ble_eq_true rfl) ⟨Nat.zero_le _, Nat.zero_le _⟩ ?_
      exact p_ireturn (pc := 165) true rfl rfl rfl dX7_about_165 (Nat.zero_le _) (Nat.zero_le _) (Or.inl rfl) (tFo ea hF (fun _ _ => rfl))
    · refine r_iload1 (pc := 0) dX7_about_0 ?_
      refine r_tableIn (pc := 1) 166 (by decide) (by decide) rfl (by decide) dX7_about_1 ?_
      refine r_aload0 (pc := 166) dX7_about_166 ?_
      refine r_getf (pc := 167) fl_X7_10 dX7_about_167 h0 rfl ?_
      refine r_getf (pc := 170) fl_X7_101 dX7_about_170 (bget0 rfl) rfl ?_
      refine r_getf (pc := 173) fl_X7_142 dX7_about_173 (bget rfl) rfl ?_
      rw [hI.c6]
      exact p_ireturn (pc := 176) true rfl rfl rfl dX7_about_176 (Nat.zero_le _) (Nat.zero_le _) (Or.inl rfl) (tFo ea hF (fun _ _ => rfl))
set_option maxRecDepth 20000 in
theorem s7_square (hF : FACE M w) (hO : WOK w) {x y g : Int32} : SpecX mX7_square 8 1 6 [.ref 0, .int x, .int y, .int g] M (tFc [xIOB, xIAE] M (A_square x y g w)) := by
  have hZ := hO.z
  have hd := hZ.dims
  have hn120 := hO.2.2.2.1
  have hk14 := hO.2.1.1
  obtain ⟨M, S, rfl, hI⟩ := hF.board
  have h0 : (bset M 1 S) 0 = some (cO 6 [.ref 1, .ref 23, .ref 45, .ref 145, .ref 162]) := hF.1
  have hX : TXT (bset M 1 S) 162 (wn w) (wf w) := hF.2.2.2.2.2
  refine SpecX_of [some (.ref 0), some (.int x), some (.int y), some (.int g), none] (by decide) (Nat.le_of_ble_eq_true rfl) rfl ?_
  have ea : A_square x y g w = if inQ (wz w) x y then (if inR g 5 then rO (sqZ (wz w) (sqn (wz w) x y) (nm g)) w else rN 2 w) else rN 1 w := rfl
  refine r_aload0 (pc := 0) dX7_square_0 ?_
  refine r_getf (pc := 1) fl_X7_10 dX7_square_1 h0 rfl ?_
  refine r_iload1 (pc := 4) dX7_square_4 ?_
  refine r_iload2 (pc := 5) dX7_square_5 ?_
  refine r_callV2i (pc := 6) lk_X7_147 dX7_square_6 (bget0 rfl) (s_hasSquare hI hZ) (by decide) (Nat.le_of_ble_eq_true rfl) ⟨Nat.zero_le _, Nat.zero_le _⟩ ?_
  refine b_if_ne (pc := 9) 22 (by decide) dX7_square_9 (fun h1 => ?_) (fun h1 => ?_)
  · have hq : inQ (wz w) x y = true := h1
    rw [hq] at ea
    have ea : A_square x y g w = if inR g 5 then rO (sqZ (wz w) (sqn (wz w) x y) (nm g)) w else rN 2 w := ea
    rw [Bool.and_eq_true] at h1
    obtain ⟨c1, c2⟩ := inR_nm h1.1 (by omega)
    obtain ⟨e1, e2⟩ := inR_nm h1.2 (by omega)
    unfold sqn at ea
    generalize nm x = n at *
    generalize nm y = m at *
    subst c2 e2
    have hsq : m * zc (wz w) + n < zq (wz w) := by have := sq_in c1 e1; rw [Nat.mul_comm]; exact this
    refine r_aload0 (pc := 22) dX7_square_22 ?_
    refine r_getf (pc := 23) fl_X7_10 dX7_square_23 h0 rfl ?_
    refine r_iload1 (pc := 26) dX7_square_26 ?_
    refine r_iload2 (pc := 27) dX7_square_27 ?_
    refine r_callV2i (pc := 28) lk_X7_156 dX7_square_28 (bget0 rfl) (s_squareAt hI) (by decide) (Nat.le_of_ble_eq_true rfl) ⟨Nat.zero_le _, Nat.zero_le _⟩ ?_
    refine r_istore4 (pc := 31) dX7_square_31 rfl ?_
    generalize m * zc (wz w) + n = s at *
    cases hc : inR g 5 with
    | false =>
      rw [hc] at ea
      refine r_iload3 (pc := 33) dX7_square_33 ?_
      refine r_tableOut (pc := 34) 159 (inR_no hc) (by decide) dX7_square_34 ?_
      exact G_throw (pc := 159) 15 rfl rfl th_44 rfl dX7_square_159 dX7_square_162 dX7_square_163 dX7_square_165 dX7_square_168 (by decide) (by decide) (by decide) (tFx 1 ea hF rfl)
    | true =>
      rw [hc] at ea
      have ea : A_square (nI n) (nI m) g w = rO (sqZ (wz w) s (nm g)) w := ea
      obtain ⟨g1, g2⟩ := inR_nm hc (by decide)
      generalize nm g = j at *
      subst g2
      have hp6 := pipZ_le hZ hsq
      have c : j = 0 ∨ j = 1 ∨ j = 2 ∨ j = 3 ∨ j = 4 := by omega
      rcases c with c | c | c | c | c <;> subst c
      · refine r_iload3 (pc := 33) dX7_square_33 ?_
        refine r_tableIn (pc := 34) 68 (by decide) (by decide) rfl (by decide) dX7_square_34 ?_
        refine r_aload0 (pc := 68) dX7_square_68 ?_
        refine r_getf (pc := 69) fl_X7_10 dX7_square_69 h0 rfl ?_
        refine r_getf (pc := 72) fl_X7_101 dX7_square_72 (bget0 rfl) rfl ?_
        refine r_getf (pc := 75) fl_X7_160 dX7_square_75 (bget rfl) rfl ?_
        refine r_iload4 (pc := 78) dX7_square_78 ?_
        refine r_callS2i (pc := 80) lk_X7_163 dX7_square_80 (s_at (bget rfl) (by omega) (by decide) (hI.G hsq)) (by decide) (Nat.le_of_ble_eq_true rfl) ⟨Nat.zero_le _, Nat.zero_le _⟩ ?_
        exact p_ireturn (pc := 83) true rfl rfl rfl dX7_square_83 (Nat.zero_le _) (Nat.zero_le _) (Or.inl rfl) (tFo ea hF (fun _ _ => rfl))
      · refine r_iload3 (pc := 33) dX7_square_33 ?_
        refine r_tableIn (pc := 34) 84 (by decide) (by decide) rfl (by decide) dX7_square_34 ?_
        refine r_aload0 (pc := 84) dX7_square_84 ?_
        refine r_getf (pc := 85) fl_X7_10 dX7_square_85 h0 rfl ?_
        refine r_aload0 (pc := 88) dX7_square_88 ?_
        refine r_getf (pc := 89) fl_X7_10 dX7_square_89 h0 rfl ?_
        refine r_iload4 (pc := 92) dX7_square_92 ?_
        refine r_callV1i (pc := 94) lk_X7_167 dX7_square_94 (bget0 rfl) (s_pipsOn hI hZ hsq) (by decide) (Nat.le_of_ble_eq_true rfl) ⟨Nat.zero_le _, Nat.zero_le _⟩ ?_
        refine r_callV1i (pc := 97) lk_X7_170 dX7_square_97 (bget0 rfl) (s_shade hI hZ hp6) (by decide) (Nat.le_of_ble_eq_true rfl) ⟨Nat.zero_le _, Nat.zero_le _⟩ ?_
        exact p_ireturn (pc := 100) true rfl rfl rfl dX7_square_100 (Nat.zero_le _) (Nat.zero_le _) (Or.inl rfl) (tFo ea hF (fun _ _ => rfl))
      · refine r_iload3 (pc := 33) dX7_square_33 ?_
        refine r_tableIn (pc := 34) 101 (by decide) (by decide) rfl (by decide) dX7_square_34 ?_
        refine r_aload0 (pc := 101) dX7_square_101 ?_
        refine r_getf (pc := 102) fl_X7_10 dX7_square_102 h0 rfl ?_
        refine r_getf (pc := 105) fl_X7_101 dX7_square_105 (bget0 rfl) rfl ?_
        refine r_getf (pc := 108) fl_X7_160 dX7_square_108 (bget rfl) rfl ?_
        refine r_iload4 (pc := 111) dX7_square_111 ?_
        refine r_callS2i (pc := 113) lk_X7_163 dX7_square_113 (s_at (bget rfl) (by omega) (by decide) (hI.G hsq)) (by decide) (Nat.le_of_ble_eq_true rfl) ⟨Nat.zero_le _, Nat.zero_le _⟩ ?_
        refine r_aload0 (pc := 116) dX7_square_116 ?_
        refine r_getf (pc := 117) fl_X7_10 dX7_square_117 h0 rfl ?_
        refine r_aload0 (pc := 120) dX7_square_120 ?_
        refine r_getf (pc := 121) fl_X7_10 dX7_square_121 h0 rfl ?_
        refine r_iload4 (pc := 124) dX7_square_124 ?_
        refine r_callV1i (pc := 126) lk_X7_167 dX7_square_126 (bget0 rfl) (s_pipsOn hI hZ hsq) (by decide) (Nat.le_of_ble_eq_true rfl) ⟨Nat.zero_le _, Nat.zero_le _⟩ ?_
        refine r_callV1i (pc := 129) lk_X7_170 dX7_square_129 (bget0 rfl) (s_shade hI hZ hp6) (by decide) (Nat.le_of_ble_eq_true rfl) ⟨Nat.zero_le _, Nat.zero_le _⟩ ?_
        refine r_callS2i (pc := 132) lk_X7_173 dX7_square_132 s_miss (by decide) (Nat.le_of_ble_eq_true rfl) ⟨Nat.zero_le _, Nat.zero_le _⟩ ?_
        exact p_ireturn (pc := 135) true rfl rfl rfl dX7_square_135 (Nat.zero_le _) (Nat.zero_le _) (Or.inl rfl) (tFo ea hF (fun _ _ => rfl))
      · obtain ⟨k, hk, e, hP⟩ := hI.P hZ hsq
        have ep : plZ (wz w) s = k := plZ_eq hZ hk e
        have ea : A_square (nI n) (nI m) (nI 3) w = rO (nI k) w := by rw [ea]; show rO (nI (plZ (wz w) s)) w = _; rw [ep]
        refine r_iload3 (pc := 33) dX7_square_33 ?_
        refine r_tableIn (pc := 34) 136 (by decide) (by decide) rfl (by decide) dX7_square_34 ?_
        refine r_aload0 (pc := 136) dX7_square_136 ?_
        refine r_getf (pc := 137) fl_X7_10 dX7_square_137 h0 rfl ?_
        refine r_getf (pc := 140) fl_X7_176 dX7_square_140 (bget0 rfl) rfl ?_
        refine r_iload4 (pc := 143) dX7_square_143 ?_
        refine r_callS2i (pc := 145) lk_X7_163 dX7_square_145 (s_at (bget rfl) (by omega) (by decide) hP) (by decide) (Nat.le_of_ble_eq_true rfl) ⟨Nat.zero_le _, Nat.zero_le _⟩ ?_
        exact p_ireturn (pc := 148) true rfl rfl rfl dX7_square_148 (Nat.zero_le _) (Nat.zero_le _) (Or.inl rfl) (tFo ea hF (fun _ _ => rfl))
      · refine r_iload3 (pc := 33) dX7_square_33 ?_
        refine r_tableIn (pc := 34) 149 (by decide) (by decide) rfl (by decide) dX7_square_34 ?_
        refine r_aload0 (pc := 149) dX7_square_149 ?_
        refine r_getf (pc := 150) fl_X7_10 dX7_square_150 h0 rfl ?_
        refine r_iload4 (pc := 153) dX7_square_153 ?_
        refine r_callV1i (pc := 155) lk_X7_167 dX7_square_155 (bget0 rfl) (s_pipsOn hI hZ hsq) (by decide) (Nat.le_of_ble_eq_true rfl) ⟨Nat.zero_le _, Nat.zero_le _⟩ ?_
        exact p_ireturn (pc := 158) true rfl rfl rfl dX7_square_158 (Nat.zero_le _) (Nat.zero_le _) (Or.inl rfl) (tFo ea hF (fun _ _ => rfl))
  · have hq : inQ (wz w) x y = false := h1
    exact G_throw (pc := 12) 14 rfl rfl th_151 rfl dX7_square_12 dX7_square_15 dX7_square_16 dX7_square_18 dX7_square_21 (by decide) (by decide) (by decide) (tFx 0 (by rw [ea, hq]; rfl) hF rfl)
set_option maxRecDepth 20000 in
theorem s7_place (hF : FACE M w) (hO : WOK w) {x y : Int32} : SpecX mX7_place 8 1 6 [.ref 0, .int x, .int y] M (tFc [xIOB, xIAE] M (A_place x y w)) := by
  have hZ := hO.z
  have hd := hZ.dims
  have hn120 := hO.2.2.2.1
  have hk14 := hO.2.1.1
  obtain ⟨M, S, rfl, hI⟩ := hF.board
  have h0 : (bset M 1 S) 0 = some (cO 6 [.ref 1, .ref 23, .ref 45, .ref 145, .ref 162]) := hF.1
  have hX : TXT (bset M 1 S) 162 (wn w) (wf w) := hF.2.2.2.2.2
  refine SpecX_of [some (.ref 0), some (.int x), some (.int y)] (by decide) (Nat.le_of_ble_eq_true rfl) rfl ?_
  have ea : A_place x y w = if inR x (zt (wz w)) then (if inR y 7 then rO (plcZ (wz w) (nm x) (nm y)) w else rN 2 w) else rN 1 w := rfl
  refine r_aload0 (pc := 0) dX7_place_0 ?_
  refine r_getf (pc := 1) fl_X7_10 dX7_place_1 h0 rfl ?_
  refine r_iload1 (pc := 4) dX7_place_4 ?_
  refine r_callV1i (pc := 5) lk_X7_181 dX7_place_5 (bget0 rfl) (s_hasPlace hI hZ) (by decide) (Nat.le_of_ble_eq_true rfl) ⟨Nat.zero_le _, Nat.zero_le _⟩ ?_
  refine b_if_ne (pc := 8) 21 (by decide) dX7_place_8 (fun h1 => ?_) (fun h1 => ?_)
  · rw [h1] at ea
    have ea : A_place x y w = if inR y 7 then rO (plcZ (wz w) (nm x) (nm y)) w else rN 2 w := ea
    obtain ⟨c1, c2⟩ := inR_nm h1 (by omega)
    generalize nm x = k at *
    subst c2
    cases hc : inR y 7 with
    | false =>
      rw [hc] at ea
      refine r_iload2 (pc := 21) dX7_place_21 ?_
      refine r_tableOut (pc := 22) 165 (inR_no hc) (by decide) dX7_place_22 ?_
      exact G_throw (pc := 165) 17 rfl rfl th_44 rfl dX7_place_165 dX7_place_168 dX7_place_169 dX7_place_171 dX7_place_174 (by decide) (by decide) (by decide) (tFx 1 ea hF rfl)
    | true =>
      rw [hc] at ea
      have ea : A_place (nI k) y w = rO (plcZ (wz w) k (nm y)) w := ea
      obtain ⟨g1, g2⟩ := inR_nm hc (by decide)
      generalize nm y = j at *
      subst g2
      have c : j = 0 ∨ j = 1 ∨ j = 2 ∨ j = 3 ∨ j = 4 ∨ j = 5 ∨ j = 6 := by omega
      rcases c with c | c | c | c | c | c | c <;> subst c
      · refine r_iload2 (pc := 21) dX7_place_21 ?_
        refine r_tableIn (pc := 22) 64 (by decide) (by decide) rfl (by decide) dX7_place_22 ?_
        refine r_aload0 (pc := 64) dX7_place_64 ?_
        refine r_getf (pc := 65) fl_X7_10 dX7_place_65 h0 rfl ?_
        refine r_getf (pc := 68) fl_X7_101 dX7_place_68 (bget0 rfl) rfl ?_
        refine r_getf (pc := 71) fl_X7_187 dX7_place_71 (bget rfl) rfl ?_
        refine r_iload1 (pc := 74) dX7_place_74 ?_
        refine r_callS2i (pc := 75) lk_X7_163 dX7_place_75 (s_at (bget rfl) (by omega) (by decide) (hI.F c1)) (by decide) (Nat.le_of_ble_eq_true rfl) ⟨Nat.zero_le _, Nat.zero_le _⟩ ?_
        exact p_ireturn (pc := 78) true rfl rfl rfl dX7_place_78 (Nat.zero_le _) (Nat.zero_le _) (Or.inl rfl) (tFo ea hF (fun _ _ => rfl))
      · refine r_iload2 (pc := 21) dX7_place_21 ?_
        refine r_tableIn (pc := 22) 79 (by decide) (by decide) rfl (by decide) dX7_place_22 ?_
        refine r_aload0 (pc := 79) dX7_place_79 ?_
        refine r_getf (pc := 80) fl_X7_10 dX7_place_80 h0 rfl ?_
        refine r_getf (pc := 83) fl_X7_101 dX7_place_83 (bget0 rfl) rfl ?_
        refine r_getf (pc := 86) fl_X7_190 dX7_place_86 (bget rfl) rfl ?_
        refine r_iload1 (pc := 89) dX7_place_89 ?_
        refine r_callS2i (pc := 90) lk_X7_163 dX7_place_90 (s_at (bget rfl) (by omega) (by decide) (hI.O c1)) (by decide) (Nat.le_of_ble_eq_true rfl) ⟨Nat.zero_le _, Nat.zero_le _⟩ ?_
        exact p_ireturn (pc := 93) true rfl rfl rfl dX7_place_93 (Nat.zero_le _) (Nat.zero_le _) (Or.inl rfl) (tFo ea hF (fun _ _ => rfl))
      · refine r_iload2 (pc := 21) dX7_place_21 ?_
        refine r_tableIn (pc := 22) 94 (by decide) (by decide) rfl (by decide) dX7_place_22 ?_
        refine r_aload0 (pc := 94) dX7_place_94 ?_
        refine r_getf (pc := 95) fl_X7_10 dX7_place_95 h0 rfl ?_
        refine r_getf (pc := 98) fl_X7_101 dX7_place_98 (bget0 rfl) rfl ?_
        refine r_getf (pc := 101) fl_X7_193 dX7_place_101 (bget rfl) rfl ?_
        refine r_iload1 (pc := 104) dX7_place_104 ?_
        refine r_callS2i (pc := 105) lk_X7_163 dX7_place_105 (s_at (bget rfl) (by omega) (by decide) (hI.T c1)) (by decide) (Nat.le_of_ble_eq_true rfl) ⟨Nat.zero_le _, Nat.zero_le _⟩ ?_
        exact p_ireturn (pc := 108) true rfl rfl rfl dX7_place_108 (Nat.zero_le _) (Nat.zero_le _) (Or.inl rfl) (tFo ea hF (fun _ _ => rfl))
      · refine r_iload2 (pc := 21) dX7_place_21 ?_
        refine r_tableIn (pc := 22) 109 (by decide) (by decide) rfl (by decide) dX7_place_22 ?_
        refine r_aload0 (pc := 109) dX7_place_109 ?_
        refine r_getf (pc := 110) fl_X7_10 dX7_place_110 h0 rfl ?_
        refine r_getf (pc := 113) fl_X7_101 dX7_place_113 (bget0 rfl) rfl ?_
        refine r_getf (pc := 116) fl_X7_128 dX7_place_116 (bget rfl) rfl ?_
        refine r_iload1 (pc := 119) dX7_place_119 ?_
        refine r_callS2i (pc := 120) lk_X7_163 dX7_place_120 (s_at (bget rfl) (by omega) (by decide) (hI.U c1)) (by decide) (Nat.le_of_ble_eq_true rfl) ⟨Nat.zero_le _, Nat.zero_le _⟩ ?_
        exact p_ireturn (pc := 123) true rfl rfl rfl dX7_place_123 (Nat.zero_le _) (Nat.zero_le _) (Or.inl rfl) (tFo ea hF (fun _ _ => rfl))
      · refine r_iload2 (pc := 21) dX7_place_21 ?_
        refine r_tableIn (pc := 22) 124 (by decide) (by decide) rfl (by decide) dX7_place_22 ?_
        refine r_aload0 (pc := 124) dX7_place_124 ?_
        refine r_getf (pc := 125) fl_X7_10 dX7_place_125 h0 rfl ?_
        refine r_iload1 (pc := 128) dX7_place_128 ?_
        refine r_callV1i (pc := 129) lk_X7_196 dX7_place_129 (bget0 rfl) (s_errorAt hI hZ c1) (by decide) (Nat.le_of_ble_eq_true rfl) ⟨Nat.zero_le _, Nat.zero_le _⟩ ?_
        exact p_ireturn (pc := 132) true rfl rfl rfl dX7_place_132 (Nat.zero_le _) (Nat.zero_le _) (Or.inl rfl) (tFo ea hF (fun _ _ => rfl))
      · refine r_iload2 (pc := 21) dX7_place_21 ?_
        refine r_tableIn (pc := 22) 133 (by decide) (by decide) rfl (by decide) dX7_place_22 ?_
        refine r_aload0 (pc := 133) dX7_place_133 ?_
        refine r_getf (pc := 134) fl_X7_10 dX7_place_134 h0 rfl ?_
        refine r_getf (pc := 137) fl_X7_101 dX7_place_137 (bget0 rfl) rfl ?_
        refine r_getf (pc := 140) fl_X7_136 dX7_place_140 (bget rfl) rfl ?_
        refine r_iload1 (pc := 143) dX7_place_143 ?_
        refine r_callS2i (pc := 144) lk_X7_163 dX7_place_144 (s_at (bget rfl) (by omega) (by decide) (hI.H c1)) (by decide) (Nat.le_of_ble_eq_true rfl) ⟨Nat.zero_le _, Nat.zero_le _⟩ ?_
        exact p_ireturn (pc := 147) true rfl rfl rfl dX7_place_147 (Nat.zero_le _) (Nat.zero_le _) (Or.inl rfl) (tFo ea hF (fun _ _ => rfl))
      · refine r_iload2 (pc := 21) dX7_place_21 ?_
        refine r_tableIn (pc := 22) 148 (by decide) (by decide) rfl (by decide) dX7_place_22 ?_
        refine r_aload0 (pc := 148) dX7_place_148 ?_
        refine r_getf (pc := 149) fl_X7_10 dX7_place_149 h0 rfl ?_
        refine r_iload1 (pc := 152) dX7_place_152 ?_
        refine r_callV1i (pc := 153) lk_X7_199 dX7_place_153 (bget0 rfl) (s_isAlongRow hI hZ c1) (by decide) (Nat.le_of_ble_eq_true rfl) ⟨Nat.zero_le _, Nat.zero_le _⟩ ?_
        refine b_if_eq (pc := 156) 163 (by decide) dX7_place_156 (fun h9 => ?_) (fun h9 => ?_)
        · have ea : A_place (nI k) (nI 6) w = rO (nI 0) w := by rw [ea]; show rO (bI (al (wz w) k)) w = _; rw [h9]; rfl
          refine n_iconst_0 (pc := 163) dX7_place_163 ?_
          exact p_ireturn (pc := 164) true rfl rfl rfl dX7_place_164 (Nat.zero_le _) (Nat.zero_le _) (Or.inl rfl) (tFo ea hF (fun _ _ => rfl))
        · have ea : A_place (nI k) (nI 6) w = rO (nI 1) w := by rw [ea]; show rO (bI (al (wz w) k)) w = _; rw [h9]; rfl
          refine n_iconst_1 (pc := 159) dX7_place_159 ?_
          refine r_goto (pc := 160) 164 (by decide) dX7_place_160 ?_
          exact p_ireturn (pc := 164) true rfl rfl rfl dX7_place_164 (Nat.zero_le _) (Nat.zero_le _) (Or.inl rfl) (tFo ea hF (fun _ _ => rfl))
  · exact G_throw (pc := 11) 16 rfl rfl th_151 rfl dX7_place_11 dX7_place_14 dX7_place_15 dX7_place_17 dX7_place_20 (by decide) (by decide) (by decide) (tFx 0 (by rw [ea, h1]; rfl) hF rfl)
set_option maxRecDepth 20000 in
theorem s7_tile (hF : FACE M w) (hO : WOK w) {x y : Int32} : SpecX mX7_tile 8 1 6 [.ref 0, .int x, .int y] M (tFc [xIOB, xIAE] M (A_tile x y w)) := by
  have hZ := hO.z
  have hd := hZ.dims
  have hn120 := hO.2.2.2.1
  have hk14 := hO.2.1.1
  obtain ⟨M, S, rfl, hI⟩ := hF.board
  have h0 : (bset M 1 S) 0 = some (cO 6 [.ref 1, .ref 23, .ref 45, .ref 145, .ref 162]) := hF.1
  have hX : TXT (bset M 1 S) 162 (wn w) (wf w) := hF.2.2.2.2.2
  refine SpecX_of [some (.ref 0), some (.int x), some (.int y)] (by decide) (Nat.le_of_ble_eq_true rfl) rfl ?_
  have ea : A_tile x y w = if inR x (zt (wz w)) then (if inR y 3 then rO (tilZ (wz w) (nm x) (nm y)) w else rN 2 w) else rN 1 w := rfl
  refine r_aload0 (pc := 0) dX7_tile_0 ?_
  refine r_getf (pc := 1) fl_X7_10 dX7_tile_1 h0 rfl ?_
  refine r_iload1 (pc := 4) dX7_tile_4 ?_
  refine r_callV1i (pc := 5) lk_X7_204 dX7_tile_5 (bget0 rfl) (s_hasTile hI hZ) (by decide) (Nat.le_of_ble_eq_true rfl) ⟨Nat.zero_le _, Nat.zero_le _⟩ ?_
  refine b_if_ne (pc := 8) 21 (by decide) dX7_tile_8 (fun h1 => ?_) (fun h1 => ?_)
  · rw [h1] at ea
    have ea : A_tile x y w = if inR y 3 then rO (tilZ (wz w) (nm x) (nm y)) w else rN 2 w := ea
    obtain ⟨c1, c2⟩ := inR_nm h1 (by omega)
    generalize nm x = k at *
    subst c2
    cases hc : inR y 3 with
    | false =>
      rw [hc] at ea
      refine r_iload2 (pc := 21) dX7_tile_21 ?_
      refine r_tableOut (pc := 22) 81 (inR_no hc) (by decide) dX7_tile_22 ?_
      exact G_throw (pc := 81) 19 rfl rfl th_44 rfl dX7_tile_81 dX7_tile_84 dX7_tile_85 dX7_tile_87 dX7_tile_90 (by decide) (by decide) (by decide) (tFx 1 ea hF rfl)
    | true =>
      rw [hc] at ea
      have ea : A_tile (nI k) y w = rO (tilZ (wz w) k (nm y)) w := ea
      obtain ⟨g1, g2⟩ := inR_nm hc (by decide)
      generalize nm y = j at *
      subst g2
      have c : j = 0 ∨ j = 1 ∨ j = 2 := by omega
      rcases c with c | c | c <;> subst c
      · refine r_iload2 (pc := 21) dX7_tile_21 ?_
        refine r_tableIn (pc := 22) 48 (by decide) (by decide) rfl (by decide) dX7_tile_22 ?_
        refine r_aload0 (pc := 48) dX7_tile_48 ?_
        refine r_getf (pc := 49) fl_X7_10 dX7_tile_49 h0 rfl ?_
        refine r_getf (pc := 52) fl_X7_209 dX7_tile_52 (bget0 rfl) rfl ?_
        refine r_iload1 (pc := 55) dX7_tile_55 ?_
        refine r_callS2i (pc := 56) lk_X7_163 dX7_tile_56 (s_at (bget rfl) (by omega) (by decide) (hI.lo c1)) (by decide) (Nat.le_of_ble_eq_true rfl) ⟨Nat.zero_le _, Nat.zero_le _⟩ ?_
        exact p_ireturn (pc := 59) true rfl rfl rfl dX7_tile_59 (Nat.zero_le _) (Nat.zero_le _) (Or.inl rfl) (tFo ea hF (fun _ _ => rfl))
      · refine r_iload2 (pc := 21) dX7_tile_21 ?_
        refine r_tableIn (pc := 22) 60 (by decide) (by decide) rfl (by decide) dX7_tile_22 ?_
        refine r_aload0 (pc := 60) dX7_tile_60 ?_
        refine r_getf (pc := 61) fl_X7_10 dX7_tile_61 h0 rfl ?_
        refine r_getf (pc := 64) fl_X7_212 dX7_tile_64 (bget0 rfl) rfl ?_
        refine r_iload1 (pc := 67) dX7_tile_67 ?_
        refine r_callS2i (pc := 68) lk_X7_163 dX7_tile_68 (s_at (bget rfl) (by omega) (by decide) (hI.hi c1)) (by decide) (Nat.le_of_ble_eq_true rfl) ⟨Nat.zero_le _, Nat.zero_le _⟩ ?_
        exact p_ireturn (pc := 71) true rfl rfl rfl dX7_tile_71 (Nat.zero_le _) (Nat.zero_le _) (Or.inl rfl) (tFo ea hF (fun _ _ => rfl))
      · refine r_iload2 (pc := 21) dX7_tile_21 ?_
        refine r_tableIn (pc := 22) 72 (by decide) (by decide) rfl (by decide) dX7_tile_22 ?_
        refine r_aload0 (pc := 72) dX7_tile_72 ?_
        refine r_getf (pc := 73) fl_X7_10 dX7_tile_73 h0 rfl ?_
        refine r_iload1 (pc := 76) dX7_tile_76 ?_
        refine r_callV1i (pc := 77) lk_X7_215 dX7_tile_77 (bget0 rfl) (s_placeWith hI hZ c1) (by decide) (Nat.le_of_ble_eq_true rfl) ⟨Nat.zero_le _, Nat.zero_le _⟩ ?_
        exact p_ireturn (pc := 80) true rfl rfl rfl dX7_tile_80 (Nat.zero_le _) (Nat.zero_le _) (Or.inl rfl) (tFo ea hF (fun _ _ => rfl))
  · exact G_throw (pc := 11) 18 rfl rfl th_151 rfl dX7_tile_11 dX7_tile_14 dX7_tile_15 dX7_tile_17 dX7_tile_20 (by decide) (by decide) (by decide) (tFx 0 (by rw [ea, h1]; rfl) hF rfl)
end CFACE

/-! a state of its own: seven cells -/
abbrev SS : Type := (Nat → Int32) × (Nat → Nat → Int32)
def scs (a : Nat) (T : SS) : List PCell := [
  cO 4 [.int (T.1 0), .int (T.1 1), .int (T.1 2), .ref (a + 1), .ref (a + 2), .ref (a + 3), .ref (a + 4), .ref (a + 5), .ref (a + 6)],
  cI 112 (T.2 0), cI 56 (T.2 1), cI 56 (T.2 2), cI 56 (T.2 3), cI 56 (T.2 4), cI 56 (T.2 5)]
def sset (M : Mem) (a : Nat) (T : SS) : Mem := fun i => if a ≤ i ∧ i < a + 7 then (scs a T)[i - a]? else M i
def sAt (M : Mem) (a : Nat) (T : SS) : Prop := ∀ j c, (scs a T)[j]? = some c → M (a + j) = some c
theorem scs_len (a : Nat) (T : SS) : (scs a T).length = 7 := rfl
theorem sset_get {M : Mem} {a j : Nat} {T : SS} {c : PCell} (h : (scs a T)[j]? = some c) : sset M a T (a + j) = some c := by
  have hj : j < 7 := (List.getElem?_eq_some_iff.mp h).1
  unfold sset
  rw [if_pos ⟨Nat.le_add_right _ _, Nat.add_lt_add_left hj _⟩, Nat.add_sub_cancel_left]
  exact h
theorem sset_at {M : Mem} {a : Nat} {T : SS} : sAt (sset M a T) a T := fun _ _ h => sset_get h
theorem sset_get0 {M : Mem} {a : Nat} {T : SS} {c : PCell} (h : (scs a T)[0]? = some c) : sset M a T a = some c := sset_get (j := 0) h
theorem sset_out {M : Mem} {a i : Nat} {T : SS} (h : i < a ∨ a + 7 ≤ i) : sset M a T i = M i := by
  unfold sset; rw [if_neg (by omega)]
theorem sset_sset {M : Mem} {a : Nat} {T T' : SS} : sset (sset M a T) a T' = sset M a T' := by
  funext i
  by_cases h : a ≤ i ∧ i < a + 7
  · unfold sset; rw [if_pos h, if_pos h]
  · unfold sset; rw [if_neg h, if_neg h, if_neg h]
theorem sset_self {M : Mem} {a : Nat} {T : SS} (h : sAt M a T) : sset M a T = M := by
  funext i
  by_cases hi : a ≤ i ∧ i < a + 7
  · have hj : i - a < (scs a T).length := by rw [scs_len]; omega
    have h1 := h (i - a) _ (List.getElem?_eq_getElem hj)
    unfold sset
    rw [if_pos hi, List.getElem?_eq_getElem hj, ← h1, show a + (i - a) = i by omega]
  · unfold sset; rw [if_neg hi]
theorem sset_mset {M : Mem} {a j : Nat} {T T' : SS} {c : PCell} (hj : j < 7) (h : scs a T' = (scs a T).set j c) : mset (sset M a T) (a + j) c = sset M a T' := by
  funext i
  by_cases hi : i = a + j
  · subst hi
    rw [mset_same]
    unfold sset
    rw [if_pos ⟨Nat.le_add_right _ _, Nat.add_lt_add_left hj _⟩, Nat.add_sub_cancel_left, h, List.getElem?_set_self (by rw [scs_len]; exact hj)]
  · rw [mset_ne hi]
    by_cases h2 : a ≤ i ∧ i < a + 7
    · unfold sset
      rw [if_pos h2, if_pos h2, h, List.getElem?_set_ne (by omega)]
    · unfold sset; rw [if_neg h2, if_neg h2]
def ta (T : SS) (j : Nat) (f : Nat → Int32) : SS := (T.1, fun i => if i = j then f else T.2 i)
def ti (T : SS) (j : Nat) (v : Int32) : SS := (fun i => if i = j then v else T.1 i, T.2)
def cpS (T T' : SS) : SS := ta (ta (ta (ta (ta (ta (ti (ti (ti T' 0 (T.1 0)) 1 (T.1 1)) 2 (T.1 2)) 0 (va_cpy (T.2 0) (T'.2 0) 0 0 112)) 1 (va_cpy (T.2 1) (T'.2 1) 0 0 56)) 2 (va_cpy (T.2 2) (T'.2 2) 0 0 56)) 3 (va_cpy (T.2 3) (T'.2 3) 0 0 56)) 4 (va_cpy (T.2 4) (T'.2 4) 0 0 56)) 5 (va_cpy (T.2 5) (T'.2 5) 0 0 56)
/-- the state holds the portrait z -/
def InvS (T : SS) (z : ZS) : Prop := (T.1 0 = nI (zn z) ∧ T.1 1 = nI (zs z) ∧ T.1 2 = zch z) ∧ (∀ s, s < zq z → T.2 0 s = nI (zG z s)) ∧ (∀ k, k < zt z → T.2 1 k = nI (zF z k)) ∧ (∀ k, k < zt z → T.2 2 k = nI (zO z k)) ∧ (∀ k, k < zt z → T.2 3 k = nI (zT z k)) ∧ (∀ k, k < zt z → T.2 4 k = nI (zU z k)) ∧ (∀ k, k < zt z → T.2 5 k = nI (zH z k))
theorem cpy_in {f g : Nat → Int32} {n j : Nat} (h : j < n) : va_cpy f g 0 0 n j = f j := by rw [pk_cpy_in (Nat.zero_le _) (by omega)]; congr 1; omega
theorem InvS.cp {T T' : SS} {z : ZS} (h : InvS T z) (hZ : ZOK z) : InvS (cpS T T') z := by
  have hd := hZ.dims
  obtain ⟨⟨a1, a2, a3⟩, b1, b2, b3, b4, b5, b6⟩ := h
  refine ⟨⟨a1, a2, a3⟩, fun s hs => ?_, fun s hs => ?_, fun s hs => ?_, fun s hs => ?_, fun s hs => ?_, fun s hs => ?_⟩
  · show va_cpy (T.2 0) (T'.2 0) 0 0 112 s = _; rw [cpy_in (by omega)]; exact b1 s hs
  · show va_cpy (T.2 1) (T'.2 1) 0 0 56 s = _; rw [cpy_in (by omega)]; exact b2 s hs
  · show va_cpy (T.2 2) (T'.2 2) 0 0 56 s = _; rw [cpy_in (by omega)]; exact b3 s hs
  · show va_cpy (T.2 3) (T'.2 3) 0 0 56 s = _; rw [cpy_in (by omega)]; exact b4 s hs
  · show va_cpy (T.2 4) (T'.2 4) 0 0 56 s = _; rw [cpy_in (by omega)]; exact b5 s hs
  · show va_cpy (T.2 5) (T'.2 5) 0 0 56 s = _; rw [cpy_in (by omega)]; exact b6 s hs
theorem s_far {M : Mem} {a c j : Nat} {T X : SS} {v : PCell} (h : sAt M a T) (hac : a + 7 ≤ c ∨ c + 7 ≤ a) (hj : (scs a T)[j]? = some v) : sset M c X (a + j) = some v := by
  have h1 : j < 7 := (List.getElem?_eq_some_iff.mp hj).1
  rw [sset_out (by omega)]; exact h j v hj
theorem s_far0 {M : Mem} {a c : Nat} {T X : SS} {v : PCell} (h : sAt M a T) (hac : a + 7 ≤ c ∨ c + 7 ≤ a) (hj : (scs a T)[0]? = some v) : sset M c X a = some v := s_far (j := 0) h hac hj
set_option maxRecDepth 20000 in
theorem s_copy {M : Mem} {a c : Nat} {T T' : SS} (hac : a + 7 ≤ c ∨ c + 7 ≤ a) (hT : sAt M a T) : Spec mX5_copy 1 0 0 [.ref a, .ref c] (sset M c T') none (sset M c (cpS T T')) := by
  refine Spec_of [some (.ref a), some (.ref c)] (by decide) (Nat.le_of_ble_eq_true rfl) rfl ?_
  refine r_aload0 (pc := 0) dX5_copy_0 ?_
  refine r_ifnull (pc := 1) dX5_copy_1 ?_
  refine r_aload1 (pc := 4) dX5_copy_4 ?_
  refine r_ifnonnull (pc := 5) 9 (by decide) dX5_copy_5 ?_
  refine r_aload1 (pc := 9) dX5_copy_9 ?_
  refine r_aload0 (pc := 10) dX5_copy_10 ?_
  refine r_getf (pc := 11) fl_X5_30 dX5_copy_11 (s_far0 hT hac rfl) rfl ?_
  refine r_putfI (pc := 14) fl_X5_30 dX5_copy_14 (sset_get0 rfl) (Nat.le_of_ble_eq_true rfl) ?_
  refine G_M (sset_mset (j := 0) (T := T') (T' := (ti T' 0 (T.1 0))) (by decide) rfl) ?_
  refine r_aload1 (pc := 17) dX5_copy_17 ?_
  refine r_aload0 (pc := 18) dX5_copy_18 ?_
  refine r_getf (pc := 19) fl_X5_34 dX5_copy_19 (s_far0 hT hac rfl) rfl ?_
  refine r_putfI (pc := 22) fl_X5_34 dX5_copy_22 (sset_get0 rfl) (Nat.le_of_ble_eq_true rfl) ?_
  refine G_M (sset_mset (j := 0) (T := (ti T' 0 (T.1 0))) (T' := (ti (ti T' 0 (T.1 0)) 1 (T.1 1))) (by decide) rfl) ?_
  refine r_aload1 (pc := 25) dX5_copy_25 ?_
  refine r_aload0 (pc := 26) dX5_copy_26 ?_
  refine r_getf (pc := 27) fl_X5_37 dX5_copy_27 (s_far0 hT hac rfl) rfl ?_
  refine r_putfI (pc := 30) fl_X5_37 dX5_copy_30 (sset_get0 rfl) (Nat.le_of_ble_eq_true rfl) ?_
  refine G_M (sset_mset (j := 0) (T := (ti (ti T' 0 (T.1 0)) 1 (T.1 1))) (T' := (ti (ti (ti T' 0 (T.1 0)) 1 (T.1 1)) 2 (T.1 2))) (by decide) rfl) ?_
  refine r_aload0 (pc := 33) dX5_copy_33 ?_
  refine r_getf (pc := 34) fl_X5_9 dX5_copy_34 (s_far0 hT hac rfl) rfl ?_
  refine n_iconst_0 (pc := 37) dX5_copy_37 ?_
  refine r_aload1 (pc := 38) dX5_copy_38 ?_
  refine r_getf (pc := 39) fl_X5_9 dX5_copy_39 (sset_get0 rfl) rfl ?_
  refine n_iconst_0 (pc := 42) dX5_copy_42 ?_
  refine n_bipush (pc := 43) 112 (by decide) dX5_copy_43 ?_
  refine r_copyi (pc := 45) (a0 := a + 1) (a1 := c + 1) (f := T.2 0) (g := T'.2 0) rfl (by decide) (Nat.le_of_ble_eq_true rfl) dX5_copy_45 (s_far hT hac rfl) (sset_get rfl) (by decide) (by decide) (by decide) (by decide) (by decide) ?_
  refine G_M (sset_mset (j := 1) (T := (ti (ti (ti T' 0 (T.1 0)) 1 (T.1 1)) 2 (T.1 2))) (T' := (ta (ti (ti (ti T' 0 (T.1 0)) 1 (T.1 1)) 2 (T.1 2)) 0 (va_cpy (T.2 0) (T'.2 0) 0 0 112))) (by decide) rfl) ?_
  refine r_aload0 (pc := 48) dX5_copy_48 ?_
  refine r_getf (pc := 49) fl_X5_15 dX5_copy_49 (s_far0 hT hac rfl) rfl ?_
  refine n_iconst_0 (pc := 52) dX5_copy_52 ?_
  refine r_aload1 (pc := 53) dX5_copy_53 ?_
  refine r_getf (pc := 54) fl_X5_15 dX5_copy_54 (sset_get0 rfl) rfl ?_
  refine n_iconst_0 (pc := 57) dX5_copy_57 ?_
  refine n_bipush (pc := 58) 56 (by decide) dX5_copy_58 ?_
  refine r_copyi (pc := 60) (a0 := a + 2) (a1 := c + 2) (f := T.2 1) (g := T'.2 1) rfl (by decide) (Nat.le_of_ble_eq_true rfl) dX5_copy_60 (s_far hT hac rfl) (sset_get rfl) (by decide) (by decide) (by decide) (by decide) (by decide) ?_
  refine G_M (sset_mset (j := 2) (T := (ta (ti (ti (ti T' 0 (T.1 0)) 1 (T.1 1)) 2 (T.1 2)) 0 (va_cpy (T.2 0) (T'.2 0) 0 0 112))) (T' := (ta (ta (ti (ti (ti T' 0 (T.1 0)) 1 (T.1 1)) 2 (T.1 2)) 0 (va_cpy (T.2 0) (T'.2 0) 0 0 112)) 1 (va_cpy (T.2 1) (T'.2 1) 0 0 56))) (by decide) rfl) ?_
  refine r_aload0 (pc := 63) dX5_copy_63 ?_
  refine r_getf (pc := 64) fl_X5_18 dX5_copy_64 (s_far0 hT hac rfl) rfl ?_
  refine n_iconst_0 (pc := 67) dX5_copy_67 ?_
  refine r_aload1 (pc := 68) dX5_copy_68 ?_
  refine r_getf (pc := 69) fl_X5_18 dX5_copy_69 (sset_get0 rfl) rfl ?_
  refine n_iconst_0 (pc := 72) dX5_copy_72 ?_
  refine n_bipush (pc := 73) 56 (by decide) dX5_copy_73 ?_
  refine r_copyi (pc := 75) (a0 := a + 3) (a1 := c + 3) (f := T.2 2) (g := T'.2 2) rfl (by decide) (Nat.le_of_ble_eq_true rfl) dX5_copy_75 (s_far hT hac rfl) (sset_get rfl) (by decide) (by decide) (by decide) (by decide) (by decide) ?_
  refine G_M (sset_mset (j := 3) (T := (ta (ta (ti (ti (ti T' 0 (T.1 0)) 1 (T.1 1)) 2 (T.1 2)) 0 (va_cpy (T.2 0) (T'.2 0) 0 0 112)) 1 (va_cpy (T.2 1) (T'.2 1) 0 0 56))) (T' := (ta (ta (ta (ti (ti (ti T' 0 (T.1 0)) 1 (T.1 1)) 2 (T.1 2)) 0 (va_cpy (T.2 0) (T'.2 0) 0 0 112)) 1 (va_cpy (T.2 1) (T'.2 1) 0 0 56)) 2 (va_cpy (T.2 2) (T'.2 2) 0 0 56))) (by decide) rfl) ?_
  refine r_aload0 (pc := 78) dX5_copy_78 ?_
  refine r_getf (pc := 79) fl_X5_21 dX5_copy_79 (s_far0 hT hac rfl) rfl ?_
  refine n_iconst_0 (pc := 82) dX5_copy_82 ?_
  refine r_aload1 (pc := 83) dX5_copy_83 ?_
  refine r_getf (pc := 84) fl_X5_21 dX5_copy_84 (sset_get0 rfl) rfl ?_
  refine n_iconst_0 (pc := 87) dX5_copy_87 ?_
  refine n_bipush (pc := 88) 56 (by decide) dX5_copy_88 ?_
  refine r_copyi (pc := 90) (a0 := a + 4) (a1 := c + 4) (f := T.2 3) (g := T'.2 3) rfl (by decide) (Nat.le_of_ble_eq_true rfl) dX5_copy_90 (s_far hT hac rfl) (sset_get rfl) (by decide) (by decide) (by decide) (by decide) (by decide) ?_
  refine G_M (sset_mset (j := 4) (T := (ta (ta (ta (ti (ti (ti T' 0 (T.1 0)) 1 (T.1 1)) 2 (T.1 2)) 0 (va_cpy (T.2 0) (T'.2 0) 0 0 112)) 1 (va_cpy (T.2 1) (T'.2 1) 0 0 56)) 2 (va_cpy (T.2 2) (T'.2 2) 0 0 56))) (T' := (ta (ta (ta (ta (ti (ti (ti T' 0 (T.1 0)) 1 (T.1 1)) 2 (T.1 2)) 0 (va_cpy (T.2 0) (T'.2 0) 0 0 112)) 1 (va_cpy (T.2 1) (T'.2 1) 0 0 56)) 2 (va_cpy (T.2 2) (T'.2 2) 0 0 56)) 3 (va_cpy (T.2 3) (T'.2 3) 0 0 56))) (by decide) rfl) ?_
  refine r_aload0 (pc := 93) dX5_copy_93 ?_
  refine r_getf (pc := 94) fl_X5_24 dX5_copy_94 (s_far0 hT hac rfl) rfl ?_
  refine n_iconst_0 (pc := 97) dX5_copy_97 ?_
  refine r_aload1 (pc := 98) dX5_copy_98 ?_
  refine r_getf (pc := 99) fl_X5_24 dX5_copy_99 (sset_get0 rfl) rfl ?_
  refine n_iconst_0 (pc := 102) dX5_copy_102 ?_
  refine n_bipush (pc := 103) 56 (by decide) dX5_copy_103 ?_
  refine r_copyi (pc := 105) (a0 := a + 5) (a1 := c + 5) (f := T.2 4) (g := T'.2 4) rfl (by decide) (Nat.le_of_ble_eq_true rfl) dX5_copy_105 (s_far hT hac rfl) (sset_get rfl) (by decide) (by decide) (by decide) (by decide) (by decide) ?_
  refine G_M (sset_mset (j := 5) (T := (ta (ta (ta (ta (ti (ti (ti T' 0 (T.1 0)) 1 (T.1 1)) 2 (T.1 2)) 0 (va_cpy (T.2 0) (T'.2 0) 0 0 112)) 1 (va_cpy (T.2 1) (T'.2 1) 0 0 56)) 2 (va_cpy (T.2 2) (T'.2 2) 0 0 56)) 3 (va_cpy (T.2 3) (T'.2 3) 0 0 56))) (T' := (ta (ta (ta (ta (ta (ti (ti (ti T' 0 (T.1 0)) 1 (T.1 1)) 2 (T.1 2)) 0 (va_cpy (T.2 0) (T'.2 0) 0 0 112)) 1 (va_cpy (T.2 1) (T'.2 1) 0 0 56)) 2 (va_cpy (T.2 2) (T'.2 2) 0 0 56)) 3 (va_cpy (T.2 3) (T'.2 3) 0 0 56)) 4 (va_cpy (T.2 4) (T'.2 4) 0 0 56))) (by decide) rfl) ?_
  refine r_aload0 (pc := 108) dX5_copy_108 ?_
  refine r_getf (pc := 109) fl_X5_27 dX5_copy_109 (s_far0 hT hac rfl) rfl ?_
  refine n_iconst_0 (pc := 112) dX5_copy_112 ?_
  refine r_aload1 (pc := 113) dX5_copy_113 ?_
  refine r_getf (pc := 114) fl_X5_27 dX5_copy_114 (sset_get0 rfl) rfl ?_
  refine n_iconst_0 (pc := 117) dX5_copy_117 ?_
  refine n_bipush (pc := 118) 56 (by decide) dX5_copy_118 ?_
  refine r_copyi (pc := 120) (a0 := a + 6) (a1 := c + 6) (f := T.2 5) (g := T'.2 5) rfl (by decide) (Nat.le_of_ble_eq_true rfl) dX5_copy_120 (s_far hT hac rfl) (sset_get rfl) (by decide) (by decide) (by decide) (by decide) (by decide) ?_
  refine G_M (sset_mset (j := 6) (T := (ta (ta (ta (ta (ta (ti (ti (ti T' 0 (T.1 0)) 1 (T.1 1)) 2 (T.1 2)) 0 (va_cpy (T.2 0) (T'.2 0) 0 0 112)) 1 (va_cpy (T.2 1) (T'.2 1) 0 0 56)) 2 (va_cpy (T.2 2) (T'.2 2) 0 0 56)) 3 (va_cpy (T.2 3) (T'.2 3) 0 0 56)) 4 (va_cpy (T.2 4) (T'.2 4) 0 0 56))) (T' := (ta (ta (ta (ta (ta (ta (ti (ti (ti T' 0 (T.1 0)) 1 (T.1 1)) 2 (T.1 2)) 0 (va_cpy (T.2 0) (T'.2 0) 0 0 112)) 1 (va_cpy (T.2 1) (T'.2 1) 0 0 56)) 2 (va_cpy (T.2 2) (T'.2 2) 0 0 56)) 3 (va_cpy (T.2 3) (T'.2 3) 0 0 56)) 4 (va_cpy (T.2 4) (T'.2 4) 0 0 56)) 5 (va_cpy (T.2 5) (T'.2 5) 0 0 56))) (by decide) rfl) ?_
  exact r_return (pc := 123) false rfl rfl dX5_copy_123 (Nat.zero_le _) (Nat.zero_le _) (Or.inl rfl) rfl rfl
def stOf (S : BS) : SS := (fun i => S.1 (4 + i), fun j => S.2 (2 + j))
def wSt (S : BS) (T : SS) : BS := (fun i => if i = 4 then T.1 0 else if i = 5 then T.1 1 else if i = 6 then T.1 2 else S.1 i, fun j => if j = 2 then T.2 0 else if j = 3 then T.2 1 else if j = 4 then T.2 2 else if j = 5 then T.2 3 else if j = 6 then T.2 4 else if j = 7 then T.2 5 else S.2 j)
theorem bst_at {M : Mem} {b : Nat} {S : BS} : sAt (bset M b S) (b + 1) (stOf S) := by
  intro j c hj
  have h1 : j < 7 := (List.getElem?_eq_some_iff.mp hj).1
  rw [Nat.add_assoc]
  refine bget ?_
  match j, h1 with
  | 0, _ => exact hj
  | 1, _ => exact hj
  | 2, _ => exact hj
  | 3, _ => exact hj
  | 4, _ => exact hj
  | 5, _ => exact hj
  | 6, _ => exact hj
theorem bst_set {M : Mem} {b : Nat} {S : BS} {T : SS} : sset (bset M b S) (b + 1) T = bset M b (wSt S T) := by
  funext i
  by_cases h : b + 1 ≤ i ∧ i < b + 1 + 7
  · unfold sset
    rw [if_pos h]
    unfold bset
    rw [if_pos (by omega)]
    have h1 : i - b = (i - (b + 1)) + 1 := by omega
    have h2 : i - (b + 1) < 7 := by omega
    rw [h1]
    match i - (b + 1), h2 with
    | 0, _ => rfl
    | 1, _ => rfl
    | 2, _ => rfl
    | 3, _ => rfl
    | 4, _ => rfl
    | 5, _ => rfl
    | 6, _ => rfl
  · unfold sset
    rw [if_neg h]
    unfold bset
    by_cases h3 : b ≤ i ∧ i < b + 22
    · rw [if_pos h3, if_pos h3]
      have h4 : i - b = 0 ∨ 8 ≤ i - b := by omega
      have h5 : i - b < 22 := by omega
      generalize i - b = j at h4 h5
      match j, h4, h5 with
      | 0, _, _ => rfl
      | 8, _, _ => rfl
      | 9, _, _ => rfl
      | 10, _, _ => rfl
      | 11, _, _ => rfl
      | 12, _, _ => rfl
      | 13, _, _ => rfl
      | 14, _, _ => rfl
      | 15, _, _ => rfl
      | 16, _, _ => rfl
      | 17, _, _ => rfl
      | 18, _, _ => rfl
      | 19, _, _ => rfl
      | 20, _, _ => rfl
      | 21, _, _ => rfl
      | n + 22, _, h => exact absurd h (by omega)
    · rw [if_neg h3, if_neg h3]
theorem InvB.st {S : BS} {z : ZS} (h : InvB S z) : InvS (stOf S) z := ⟨⟨h.c4, h.c5, h.c6⟩, h.2.1, h.2.2.1, h.2.2.2.1, h.2.2.2.2.1, h.2.2.2.2.2.1, h.2.2.2.2.2.2.1⟩
set_option maxRecDepth 20000 in
theorem s_fill {M : Mem} {a n : Nat} {f : Nat → Int32} {v : Int32} (h : M a = some (cI n f)) (hn : n < 2147483648) : Spec mJ7_fill_53178 1 0 0 [.ref a, .int v] M none (mset M a (cI n (fun j => if j < n then v else f j))) := by
  refine Spec_of [some (.ref a), some (.int v), none, none] (by decide) (Nat.le_of_ble_eq_true rfl) rfl ?_
  refine n_iconst_0 (pc := 0) dJ7_fill_53178_0 ?_
  refine r_istore2 (pc := 1) dJ7_fill_53178_1 rfl ?_
  refine r_aload0 (pc := 2) dJ7_fill_53178_2 ?_
  refine r_alenI (pc := 3) dJ7_fill_53178_3 h ?_
  refine r_istore3 (pc := 4) dJ7_fill_53178_4 rfl ?_
  refine up_to (N := n) (k := 0) (fun i => ∀ M1, M1 = mset M a (cI n (fun j => if j < i then v else f j)) →
    G mJ7_fill_53178 1 (.inl false) 0 0 (dT none (mset M a (cI n (fun j => if j < n then v else f j)))) none 0 0 5 [some (.ref a), some (.int v), some (.int (nI i)), some (.int (nI n))] [] M1
    ) (fun M1 e => ?_) (fun i hi ih M1 e => ?_) (Nat.zero_le _) M (by rw [show (fun j => if j < 0 then v else f j) = f from funext (fun j => if_neg (Nat.not_lt_zero j)), mset_self h])
  · refine r_iload2 (pc := 5) dJ7_fill_53178_5 ?_
    refine r_iload3 (pc := 6) dJ7_fill_53178_6 ?_
    refine n_icmp_ge (pc := 7) 20 (by decide) dJ7_fill_53178_7 (by omega) (by omega) (fun hc7 => ?_) (fun hc7 => absurd hc7 (by omega))
    exact r_return (pc := 20) false rfl rfl dJ7_fill_53178_20 (Nat.zero_le _) (Nat.zero_le _) (Or.inl rfl) rfl e
  · subst e
    refine r_iload2 (pc := 5) dJ7_fill_53178_5 ?_
    refine r_iload3 (pc := 6) dJ7_fill_53178_6 ?_
    refine n_icmp_ge (pc := 7) 20 (by decide) dJ7_fill_53178_7 (by omega) (by omega) (fun hc7 => absurd hc7 (by omega)) (fun hc7 => ?_)
    refine r_aload0 (pc := 10) dJ7_fill_53178_10 ?_
    refine r_iload2 (pc := 11) dJ7_fill_53178_11 ?_
    refine r_iload1 (pc := 12) dJ7_fill_53178_12 ?_
    refine n_iast (pc := 13) dJ7_fill_53178_13 mset_same hi hn ?_
    refine n_iinc2 (pc := 14) dJ7_fill_53178_14 rfl ?_
    refine r_goto (pc := 17) 5 (by decide) dJ7_fill_53178_17 ?_
    refine ih _ ?_
    rw [mset_mset]
    congr 2
    funext j
    by_cases e : j = i
    · rw [e, upd_same, if_pos (Nat.lt_succ_self _)]
    · rw [upd_ne e]
      by_cases h9 : j < i
      · rw [if_pos h9, if_pos (by omega)]
      · rw [if_neg h9, if_neg (by omega)]
theorem s_fillB {M : Mem} {b : Nat} {S : BS} {j n : Nat} {v : Int32} (hj : j < 22) (hc : (bcs b S)[j]? = some (cI n (S.2 j))) (hs : ∀ f, bcs b (ia S j f) = (bcs b S).set j (cI n f)) (hn : n < 2147483648) : Spec mJ7_fill_53178 1 0 0 [.ref (b + j), .int v] (bset M b S) none (bset M b (ia S j (fun i => if i < n then v else S.2 j i))) := by
  have h := s_fill (v := v) (bget (M := M) hc) hn
  rw [bset_mset hj (hs _)] at h
  exact h

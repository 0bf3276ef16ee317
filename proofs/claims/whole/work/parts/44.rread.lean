theorem find_eqF {z : ZS} (h : ZOK z) {k : Nat} (hk : k < zt z) {s : Nat} (e : zF z k = s) : blk z s = if (part z k).isSome then some k else none := by
  cases hp : part z k with
  | none =>
    refine blk_no (fun j hj ej => ?_)
    have := h.finj hj hk (by rw [ej, e])
    subst this; rw [hp]; rfl
  | some l => exact (blk_some h).mpr ⟨hk, e, by rw [hp]; rfl⟩
/-- the first square of the other place of the block at the square s -/
def prS (z : ZS) (s : Nat) : Option Nat := match blk z s with
  | none => none
  | some k => match part z k with
    | none => none
    | some l => some (zF z l)
theorem prS_no {z : ZS} {s : Nat} (h : ∀ k, k < zt z → zF z k ≠ s) : prS z s = none := by
  unfold prS
  rw [blk_no (fun k hk e => absurd e (h k hk))]
theorem prS_none {z : ZS} (h : ZOK z) {k : Nat} (hk : k < zt z) (hp : part z k = none) : prS z (zF z k) = none := by
  unfold prS
  rw [find_eqF h hk rfl, hp]; rfl
theorem prS_some {z : ZS} (h : ZOK z) {k l : Nat} (hk : k < zt z) (hp : part z k = some l) : prS z (zF z k) = some (zF z l) := by
  unfold prS
  rw [find_eqF h hk rfl, hp]
  show (match part z k with | none => none | some l => some (zF z l)) = _
  rw [hp]
section RREAD
variable {M : Mem} {a : Nat} {f : Nat → Int32} {z : ZS}
set_option maxRecDepth 20000 in
theorem s8_beginning (hM : M a = some (cI 563 f)) (hI : InvR f z) (hZ : ZOK z) {s : Nat} (hs : s < zq z) : Spec mX8_beginning 2 0 0 [.ref a, .int (nI s)] M (some (.int (nI (zF z (plZ z s))))) M := by
  have hd := hZ.dims
  obtain ⟨hk, he⟩ := plZ_spec hZ hs
  have hf := hZ.fo hk
  have hlp := lz_pos z (plZ z s)
  refine Spec_of [some (.ref a), some (.int (nI s))] (by decide) (Nat.le_of_ble_eq_true rfl) rfl ?_
  generalize hg : plZ z s = k at *
  rcases he with he | he
  · subst he
    refine r_aload0 (pc := 0) dX8_beginning_0 ?_
    refine n_bipush (pc := 1) 115 (by decide) dX8_beginning_1 ?_
    refine r_iload1 (pc := 3) dX8_beginning_3 ?_
    first | refine n_iadd (pc := 4) dX8_beginning_4 ?_ | refine z_iadd (pc := 4) dX8_beginning_4 ?_ | refine r_iadd (pc := 4) dX8_beginning_4 ?_
    refine n_iald (pc := 5) dX8_beginning_5 hM (by omega) (by decide) (hI.L hk) ?_
    refine n_if_le (pc := 6) 13 (by decide) dX8_beginning_6 (by omega) (fun h9 => absurd h9 (by omega)) (fun _ => ?_)
    refine r_iload1 (pc := 9) dX8_beginning_9 ?_
    refine r_goto (pc := 10) 46 (by decide) dX8_beginning_10 ?_
    exact r_ireturn (pc := 46) false rfl rfl rfl dX8_beginning_46 (Nat.zero_le _) (Nat.zero_le _) (Or.inl rfl) rfl rfl rfl
  · have hno : ∀ j, j < zt z → zF z j ≠ s := fun j hj e => hZ.fno hj hk (by rw [e, he])
    refine r_aload0 (pc := 0) dX8_beginning_0 ?_
    refine n_bipush (pc := 1) 115 (by decide) dX8_beginning_1 ?_
    refine r_iload1 (pc := 3) dX8_beginning_3 ?_
    first | refine n_iadd (pc := 4) dX8_beginning_4 ?_ | refine z_iadd (pc := 4) dX8_beginning_4 ?_ | refine r_iadd (pc := 4) dX8_beginning_4 ?_
    refine n_iald (pc := 5) dX8_beginning_5 hM (by omega) (by decide) (hI.Z hs hno) ?_
    refine n_if_le (pc := 6) 13 (by decide) dX8_beginning_6 (by omega) (fun _ => ?_) (fun h9 => absurd h9 (by omega))
    refine r_iload1 (pc := 13) dX8_beginning_13 ?_
    refine r_aload0 (pc := 14) dX8_beginning_14 ?_
    refine r_callS1i (pc := 15) lk_X8_40 dX8_beginning_15 (s8_wide hM hI) (by decide) (Nat.le_of_ble_eq_true rfl) ⟨Nat.zero_le _, Nat.zero_le _⟩ ?_
    refine n_irem (pc := 18) dX8_beginning_18 (by omega) (by omega) (by omega) ?_
    rcases al_iff hZ hk with ⟨e1, e2, e3, e4⟩ | ⟨e1, e2, e4⟩
    · have hs1 : s = zF z k + 1 := by omega
      have hmod : (zF z k + 1) % zc z = zF z k % zc z + 1 := by
        rw [Nat.add_mod, Nat.mod_eq_of_lt (show 1 < zc z by omega), Nat.mod_eq_of_lt e3]
      refine n_if_le (pc := 19) 40 (by decide) dX8_beginning_19 (by have := Nat.mod_lt s (show zc z > 0 by omega); omega) (fun h9 => ?_) (fun _ => ?_)
      · rw [hs1, hmod] at h9; omega
      · refine r_aload0 (pc := 22) dX8_beginning_22 ?_
        refine n_bipush (pc := 23) 115 (by decide) dX8_beginning_23 ?_
        refine r_iload1 (pc := 25) dX8_beginning_25 ?_
        first | refine n_iadd (pc := 26) dX8_beginning_26 ?_ | refine z_iadd (pc := 26) dX8_beginning_26 ?_ | refine r_iadd (pc := 26) dX8_beginning_26 ?_
        refine n_iconst_1 (pc := 27) dX8_beginning_27 ?_
        refine n_isub (pc := 28) dX8_beginning_28 (by omega) ?_
        refine n_iald (pc := 29) dX8_beginning_29 hM (by omega) (by decide) (show f (115 + s - 1) = nI (lz z k) by rw [show 115 + s - 1 = 115 + zF z k by omega]; exact hI.L hk) ?_
        refine n_iconst_1 (pc := 30) dX8_beginning_30 ?_
        rw [e4]
        refine n_icmp_ne (pc := 31) 40 (by decide) dX8_beginning_31 (by omega) (by omega) (fun hc31 => absurd hc31 (by omega)) (fun hc31 => ?_)
        refine r_iload1 (pc := 34) dX8_beginning_34 ?_
        refine n_iconst_1 (pc := 35) dX8_beginning_35 ?_
        refine n_isub (pc := 36) dX8_beginning_36 (by omega) ?_
        refine r_goto (pc := 37) 46 (by decide) dX8_beginning_37 ?_
        exact r_ireturn (pc := 46) false rfl rfl rfl dX8_beginning_46 (Nat.zero_le _) (Nat.zero_le _) (Or.inl rfl) rfl (by congr 2; omega) rfl
    · have hs1 : s = zF z k + zc z := by omega
      have out :
        G mX8_beginning 2 (.inl false) 0 0 (dT (some (.int (nI (zF z k)))) M) none 0 0 40 [some (.ref a), some (.int (nI s))] [] M
        := by
        refine r_iload1 (pc := 40) dX8_beginning_40 ?_
        refine r_aload0 (pc := 41) dX8_beginning_41 ?_
        refine r_callS1i (pc := 42) lk_X8_40 dX8_beginning_42 (s8_wide hM hI) (by decide) (Nat.le_of_ble_eq_true rfl) ⟨Nat.zero_le _, Nat.zero_le _⟩ ?_
        refine n_isub (pc := 45) dX8_beginning_45 (by omega) ?_
        exact r_ireturn (pc := 46) false rfl rfl rfl dX8_beginning_46 (Nat.zero_le _) (Nat.zero_le _) (Or.inl rfl) rfl (by congr 2; omega) rfl
      refine n_if_le (pc := 19) 40 (by decide) dX8_beginning_19 (by have := Nat.mod_lt s (show zc z > 0 by omega); omega) (fun _ => out) (fun hm => ?_)
      have hL : ∃ v, v ≠ 1 ∧ v ≤ 2 ∧ f (115 + s - 1) = nI v := by
        rw [show 115 + s - 1 = 115 + (s - 1) by omega]
        rcases sq_cases hZ (s - 1) with ⟨j, hj, ej, -, -⟩ | ⟨hn, -⟩
        · refine ⟨lz z j, ?_, (lz_pos z j).2, by rw [← ej]; exact hI.L hj⟩
          intro q
          rcases al_iff hZ hj with ⟨a1, a2, a3, a4⟩ | ⟨a1, a2, a4⟩
          · have := hZ.oinj hj hk (by rw [a2, he]; omega)
            subst this; omega
          · omega
        · exact ⟨0, by decide, by decide, hI.Z (by omega) hn⟩
      obtain ⟨v, v1, v2, v3⟩ := hL
      refine r_aload0 (pc := 22) dX8_beginning_22 ?_
      refine n_bipush (pc := 23) 115 (by decide) dX8_beginning_23 ?_
      refine r_iload1 (pc := 25) dX8_beginning_25 ?_
      first | refine n_iadd (pc := 26) dX8_beginning_26 ?_ | refine z_iadd (pc := 26) dX8_beginning_26 ?_ | refine r_iadd (pc := 26) dX8_beginning_26 ?_
      refine n_iconst_1 (pc := 27) dX8_beginning_27 ?_
      refine n_isub (pc := 28) dX8_beginning_28 (by omega) ?_
      refine n_iald (pc := 29) dX8_beginning_29 hM (by omega) (by decide) v3 ?_
      refine n_iconst_1 (pc := 30) dX8_beginning_30 ?_
      refine n_icmp_ne (pc := 31) 40 (by decide) dX8_beginning_31 (by omega) (by omega) (fun _ => out) (fun h9 => absurd h9 v1)
set_option maxRecDepth 20000 in
theorem s8_placeOf (hM : M a = some (cI 563 f)) (hI : InvR f z) (hZ : ZOK z) {s : Nat} (hs : s < zq z) : Spec mX8_placeOf 3 0 0 [.ref a, .int (nI s)] M (some (.int (nI (plZ z s)))) M := by
  have hd := hZ.dims
  obtain ⟨hk, he⟩ := plZ_spec hZ hs
  have hf := hZ.fo hk
  refine Spec_of [some (.ref a), some (.int (nI s)), none, none, none] (by decide) (Nat.le_of_ble_eq_true rfl) rfl ?_
  refine r_aload0 (pc := 0) dX8_placeOf_0 ?_
  refine r_iload1 (pc := 1) dX8_placeOf_1 ?_
  refine r_callS2i (pc := 2) lk_X8_79 dX8_placeOf_2 (s8_beginning hM hI hZ hs) (by decide) (Nat.le_of_ble_eq_true rfl) ⟨Nat.zero_le _, Nat.zero_le _⟩ ?_
  refine r_istore2 (pc := 5) dX8_placeOf_5 rfl ?_
  refine n_iconst_0 (pc := 6) dX8_placeOf_6 ?_
  refine r_istore3 (pc := 7) dX8_placeOf_7 rfl ?_
  refine n_iconst_0 (pc := 8) dX8_placeOf_8 ?_
  refine r_istore4 (pc := 9) dX8_placeOf_9 rfl ?_
  refine up_to (N := zF z (plZ z s)) (k := 0) (fun k => G mX8_placeOf 3 (.inl false) 0 0 (dT (some (.int (nI (plZ z s)))) M) none 0 0 11 [some (.ref a), some (.int (nI s)), some (.int (nI (zF z (plZ z s)))), some (.int (nI (cnt z k))), some (.int (nI k))] [] (M)) ?_ (fun k hk ih => ?_) (Nat.zero_le _)
  · rw [cnt_first hZ hk]
    refine r_iload4 (pc := 11) dX8_placeOf_11 ?_
    refine r_iload2 (pc := 13) dX8_placeOf_13 ?_
    refine n_icmp_ge (pc := 14) 41 (by decide) dX8_placeOf_14 (by omega) (by omega) (fun hc14 => ?_) (fun hc14 => absurd hc14 (by omega))
    refine r_iload3 (pc := 41) dX8_placeOf_41 ?_
    exact r_ireturn (pc := 42) false rfl rfl rfl dX8_placeOf_42 (Nat.zero_le _) (Nat.zero_le _) (Or.inl rfl) rfl rfl rfl
  · rcases sq_cases hZ k with ⟨j, hj, ej, c1, c2⟩ | ⟨hn, c2⟩
    · subst ej
      have hlp := lz_pos z j
      rw [c2] at ih
      rw [c1]
      refine r_iload4 (pc := 11) dX8_placeOf_11 ?_
      refine r_iload2 (pc := 13) dX8_placeOf_13 ?_
      refine n_icmp_ge (pc := 14) 41 (by decide) dX8_placeOf_14 (by omega) (by omega) (fun hc14 => absurd hc14 (by omega)) (fun hc14 => ?_)
      refine r_iload3 (pc := 17) dX8_placeOf_17 ?_
      refine r_aload0 (pc := 18) dX8_placeOf_18 ?_
      refine n_bipush (pc := 19) 115 (by decide) dX8_placeOf_19 ?_
      refine r_iload4 (pc := 21) dX8_placeOf_21 ?_
      first | refine n_iadd (pc := 23) dX8_placeOf_23 ?_ | refine z_iadd (pc := 23) dX8_placeOf_23 ?_ | refine r_iadd (pc := 23) dX8_placeOf_23 ?_
      refine n_iald (pc := 24) dX8_placeOf_24 hM (by omega) (by decide) (hI.L hj) ?_
      refine n_if_le (pc := 25) 32 (by decide) dX8_placeOf_25 (by omega) (fun h9 => absurd h9 (by omega)) (fun _ => ?_)
      refine n_iconst_1 (pc := 28) dX8_placeOf_28 ?_
      refine r_goto (pc := 29) 33 (by decide) dX8_placeOf_29 ?_
      first | refine n_iadd (pc := 33) dX8_placeOf_33 ?_ | refine z_iadd (pc := 33) dX8_placeOf_33 ?_ | refine r_iadd (pc := 33) dX8_placeOf_33 ?_
      refine r_istore3 (pc := 34) dX8_placeOf_34 rfl ?_
      refine n_iinc4 (pc := 35) dX8_placeOf_35 rfl ?_
      refine r_goto (pc := 38) 11 (by decide) dX8_placeOf_38 ?_
      exact ih
    · rw [c2] at ih
      refine r_iload4 (pc := 11) dX8_placeOf_11 ?_
      refine r_iload2 (pc := 13) dX8_placeOf_13 ?_
      refine n_icmp_ge (pc := 14) 41 (by decide) dX8_placeOf_14 (by omega) (by omega) (fun hc14 => absurd hc14 (by omega)) (fun hc14 => ?_)
      refine r_iload3 (pc := 17) dX8_placeOf_17 ?_
      refine r_aload0 (pc := 18) dX8_placeOf_18 ?_
      refine n_bipush (pc := 19) 115 (by decide) dX8_placeOf_19 ?_
      refine r_iload4 (pc := 21) dX8_placeOf_21 ?_
      first | refine n_iadd (pc := 23) dX8_placeOf_23 ?_ | refine z_iadd (pc := 23) dX8_placeOf_23 ?_ | refine r_iadd (pc := 23) dX8_placeOf_23 ?_
      refine n_iald (pc := 24) dX8_placeOf_24 hM (by omega) (by decide) (hI.Z (by omega) hn) ?_
      refine n_if_le (pc := 25) 32 (by decide) dX8_placeOf_25 (by omega) (fun _ => ?_) (fun h9 => absurd h9 (by omega))
      refine n_iconst_0 (pc := 32) dX8_placeOf_32 ?_
      first | refine n_iadd (pc := 33) dX8_placeOf_33 ?_ | refine z_iadd (pc := 33) dX8_placeOf_33 ?_ | refine r_iadd (pc := 33) dX8_placeOf_33 ?_
      refine r_istore3 (pc := 34) dX8_placeOf_34 rfl ?_
      refine n_iinc4 (pc := 35) dX8_placeOf_35 rfl ?_
      refine r_goto (pc := 38) 11 (by decide) dX8_placeOf_38 ?_
      exact ih
theorem s8_placeError (hM : M a = some (cI 563 f)) (hI : InvR f z) (hZ : ZOK z) {k : Nat} (hk : k < zt z) : Spec mX8_placeError 4 0 0 [.ref a, .int (nI (zF z k))] M (some (.int (iI (er z k)))) M := by
  have hd := hZ.dims
  have hq := hZ.fq hk
  refine Spec_of [some (.ref a), some (.int (nI (zF z k)))] (by decide) (Nat.le_of_ble_eq_true rfl) rfl ?_
  refine r_aload0 (pc := 0) dX8_placeError_0 ?_
  refine r_iload1 (pc := 1) dX8_placeError_1 ?_
  refine r_aload0 (pc := 2) dX8_placeError_2 ?_
  refine r_iload1 (pc := 3) dX8_placeError_3 ?_
  refine r_callS2i (pc := 4) lk_X8_82 dX8_placeError_4 (s8_otherOf hM hI hZ hk) (by decide) (Nat.le_of_ble_eq_true rfl) ⟨Nat.zero_le _, Nat.zero_le _⟩ ?_
  refine r_aload0 (pc := 7) dX8_placeError_7 ?_
  refine n_sipush (pc := 8) 227 (by decide) dX8_placeError_8 ?_
  refine r_iload1 (pc := 11) dX8_placeError_11 ?_
  first | refine n_iadd (pc := 12) dX8_placeError_12 ?_ | refine z_iadd (pc := 12) dX8_placeError_12 ?_ | refine r_iadd (pc := 12) dX8_placeError_12 ?_
  refine n_iald (pc := 13) dX8_placeError_13 hM (by omega) (by decide) (hI.T hk) ?_
  refine r_aload0 (pc := 14) dX8_placeError_14 ?_
  refine n_sipush (pc := 15) 339 (by decide) dX8_placeError_15 ?_
  refine r_iload1 (pc := 18) dX8_placeError_18 ?_
  first | refine n_iadd (pc := 19) dX8_placeError_19 ?_ | refine z_iadd (pc := 19) dX8_placeError_19 ?_ | refine r_iadd (pc := 19) dX8_placeError_19 ?_
  refine n_iald (pc := 20) dX8_placeError_20 hM (by omega) (by decide) (hI.U hk) ?_
  refine r_callS5i (pc := 21) lk_X8_71 dX8_placeError_21 (s8_errorOn hM hI hZ (hZ.fq hk) (hZ.oq hk) (hZ.t hk) (hZ.u hk)) (by decide) (Nat.le_of_ble_eq_true rfl) ⟨Nat.zero_le _, Nat.zero_le _⟩ ?_
  exact r_ireturn (pc := 24) false rfl rfl rfl dX8_placeError_24 (Nat.zero_le _) (Nat.zero_le _) (Or.inl rfl) rfl rfl rfl
set_option maxRecDepth 20000 in
theorem s8_wholeError (hM : M a = some (cI 563 f)) (hI : InvR f z) (hZ : ZOK z) : Spec mX8_wholeError 5 0 0 [.ref a] M (some (.int (iI (erAll z)))) M := by
  have hd := hZ.dims
  refine Spec_of [some (.ref a), none, none] (by decide) (Nat.le_of_ble_eq_true rfl) rfl ?_
  refine n_iconst_0 (pc := 0) dX8_wholeError_0 ?_
  refine r_istore1 (pc := 1) dX8_wholeError_1 rfl ?_
  refine n_iconst_0 (pc := 2) dX8_wholeError_2 ?_
  refine r_istore2 (pc := 3) dX8_wholeError_3 rfl ?_
  refine up_to (N := zq z) (k := 0) (fun k => G mX8_wholeError 5 (.inl false) 0 0 (dT (some (.int (iI (erAll z)))) M) none 0 0 4 [some (.ref a), some (.int (iI (zS (er z) (cnt z k)))), some (.int (nI k))] [] (M)) ?_ (fun k hk ih => ?_) (Nat.zero_le _)
  · rw [cnt_end hZ]
    refine r_iload2 (pc := 4) dX8_wholeError_4 ?_
    refine r_aload0 (pc := 5) dX8_wholeError_5 ?_
    refine r_callS1i (pc := 6) lk_X8_47 dX8_wholeError_6 (s8_squares hM hI) (by decide) (Nat.le_of_ble_eq_true rfl) ⟨Nat.zero_le _, Nat.zero_le _⟩ ?_
    refine n_icmp_ge (pc := 9) 39 (by decide) dX8_wholeError_9 (by omega) (by omega) (fun hc9 => ?_) (fun hc9 => absurd hc9 (by omega))
    refine r_iload1 (pc := 39) dX8_wholeError_39 ?_
    exact r_ireturn (pc := 40) false rfl rfl rfl dX8_wholeError_40 (Nat.zero_le _) (Nat.zero_le _) (Or.inl rfl) rfl rfl rfl
  · rcases sq_cases hZ k with ⟨j, hj, ej, c1, c2⟩ | ⟨hn, c2⟩
    · subst ej
      have hlp := lz_pos z j
      rw [c2] at ih
      rw [c1]
      refine r_iload2 (pc := 4) dX8_wholeError_4 ?_
      refine r_aload0 (pc := 5) dX8_wholeError_5 ?_
      refine r_callS1i (pc := 6) lk_X8_47 dX8_wholeError_6 (s8_squares hM hI) (by decide) (Nat.le_of_ble_eq_true rfl) ⟨Nat.zero_le _, Nat.zero_le _⟩ ?_
      refine n_icmp_ge (pc := 9) 39 (by decide) dX8_wholeError_9 (by omega) (by omega) (fun hc9 => absurd hc9 (by omega)) (fun hc9 => ?_)
      refine r_iload1 (pc := 12) dX8_wholeError_12 ?_
      refine r_aload0 (pc := 13) dX8_wholeError_13 ?_
      refine n_bipush (pc := 14) 115 (by decide) dX8_wholeError_14 ?_
      refine r_iload2 (pc := 16) dX8_wholeError_16 ?_
      first | refine n_iadd (pc := 17) dX8_wholeError_17 ?_ | refine z_iadd (pc := 17) dX8_wholeError_17 ?_ | refine r_iadd (pc := 17) dX8_wholeError_17 ?_
      refine n_iald (pc := 18) dX8_wholeError_18 hM (by omega) (by decide) (hI.L hj) ?_
      refine n_if_le (pc := 19) 30 (by decide) dX8_wholeError_19 (by omega) (fun h9 => absurd h9 (by omega)) (fun _ => ?_)
      refine r_aload0 (pc := 22) dX8_wholeError_22 ?_
      refine r_iload2 (pc := 23) dX8_wholeError_23 ?_
      refine r_callS2i (pc := 24) lk_X8_85 dX8_wholeError_24 (s8_placeError hM hI hZ hj) (by decide) (Nat.le_of_ble_eq_true rfl) ⟨Nat.zero_le _, Nat.zero_le _⟩ ?_
      refine r_goto (pc := 27) 31 (by decide) dX8_wholeError_27 ?_
      first | refine n_iadd (pc := 31) dX8_wholeError_31 ?_ | refine z_iadd (pc := 31) dX8_wholeError_31 ?_ | refine r_iadd (pc := 31) dX8_wholeError_31 ?_
      refine r_istore1 (pc := 32) dX8_wholeError_32 rfl ?_
      refine n_iinc2 (pc := 33) dX8_wholeError_33 rfl ?_
      refine r_goto (pc := 36) 4 (by decide) dX8_wholeError_36 ?_
      exact ih
    · rw [c2] at ih
      refine r_iload2 (pc := 4) dX8_wholeError_4 ?_
      refine r_aload0 (pc := 5) dX8_wholeError_5 ?_
      refine r_callS1i (pc := 6) lk_X8_47 dX8_wholeError_6 (s8_squares hM hI) (by decide) (Nat.le_of_ble_eq_true rfl) ⟨Nat.zero_le _, Nat.zero_le _⟩ ?_
      refine n_icmp_ge (pc := 9) 39 (by decide) dX8_wholeError_9 (by omega) (by omega) (fun hc9 => absurd hc9 (by omega)) (fun hc9 => ?_)
      refine r_iload1 (pc := 12) dX8_wholeError_12 ?_
      refine r_aload0 (pc := 13) dX8_wholeError_13 ?_
      refine n_bipush (pc := 14) 115 (by decide) dX8_wholeError_14 ?_
      refine r_iload2 (pc := 16) dX8_wholeError_16 ?_
      first | refine n_iadd (pc := 17) dX8_wholeError_17 ?_ | refine z_iadd (pc := 17) dX8_wholeError_17 ?_ | refine r_iadd (pc := 17) dX8_wholeError_17 ?_
      refine n_iald (pc := 18) dX8_wholeError_18 hM (by omega) (by decide) (hI.Z hk hn) ?_
      refine n_if_le (pc := 19) 30 (by decide) dX8_wholeError_19 (by omega) (fun _ => ?_) (fun h9 => absurd h9 (by omega))
      refine n_iconst_0 (pc := 30) dX8_wholeError_30 ?_
      rw [show nI 0 = iI ((0 : Nat) : Int) from iI_nat 0]
      first | refine n_iadd (pc := 31) dX8_wholeError_31 ?_ | refine z_iadd (pc := 31) dX8_wholeError_31 ?_ | refine r_iadd (pc := 31) dX8_wholeError_31 ?_
      refine r_istore1 (pc := 32) dX8_wholeError_32 rfl ?_
      refine n_iinc2 (pc := 33) dX8_wholeError_33 rfl ?_
      refine r_goto (pc := 36) 4 (by decide) dX8_wholeError_36 ?_
      rw [show zS (er z) (cnt z k) + ((0 : Nat) : Int) = zS (er z) (cnt z k) by omega]
      exact ih
set_option maxRecDepth 20000 in
theorem s8_pipsOn (hM : M a = some (cI 563 f)) (hI : InvR f z) (hZ : ZOK z) {s : Nat} (hs : s < zq z) : Spec mX8_pipsOn 3 0 0 [.ref a, .int (nI s)] M (some (.int (nI (pipZ z s)))) M := by
  have hd := hZ.dims
  obtain ⟨hk, he⟩ := plZ_spec hZ hs
  have hq := hZ.fq hk
  have hu := hZ.u hk
  have ht := hZ.t hk
  refine Spec_of [some (.ref a), some (.int (nI s)), none, none] (by decide) (Nat.le_of_ble_eq_true rfl) rfl ?_
  have part2 : ∀ c1 : Bool, c1 = decide (zF z (plZ z s) = s) →
    G mX8_pipsOn 3 (.inl false) 0 0 (dT (some (.int (nI (pipZ z s)))) M) none 0 0 16 [some (.ref a), some (.int (nI s)), some (.int (nI (zF z (plZ z s)))), none] [.int (bI c1)] M
    := by
    intro c1 e1
    have part3 : ∀ c2 : Bool, c2 = decide (zU z (plZ z s) = 0) →
      G mX8_pipsOn 3 (.inl false) 0 0 (dT (some (.int (nI (pipZ z s)))) M) none 0 0 31 [some (.ref a), some (.int (nI s)), some (.int (nI (zF z (plZ z s)))), none] [.int (bI c2), .int (bI c1)] M
      := by
      intro c2 e2
      have ep : pipZ z s = if c1 = c2 then plo (zn z) (zT z (plZ z s)) else phi (zn z) (zT z (plZ z s)) := by
        unfold pipZ
        rw [← e1]
        have e3 : decide (zU z (plZ z s) ≠ 0) = !c2 := by rw [e2]; simp
        rw [e3]
        cases c1 <;> cases c2 <;> rfl
      refine r_icmp_ne (pc := 31) 38 (by decide) dX8_pipsOn_31 (fun h9 => ?_) (fun h9 => ?_)
      · rw [if_neg (fun q => h9 (by rw [q]))] at ep
        refine n_iconst_0 (pc := 38) dX8_pipsOn_38 ?_
        refine r_istore3 (pc := 39) dX8_pipsOn_39 rfl ?_
        refine r_iload3 (pc := 40) dX8_pipsOn_40 ?_
        refine b_if_eq (b := false) (pc := 41) 58 (by decide) dX8_pipsOn_41 (fun _ => ?_) (fun h8 => by cases h8)
        refine r_aload0 (pc := 58) dX8_pipsOn_58 ?_
        refine r_aload0 (pc := 59) dX8_pipsOn_59 ?_
        refine n_sipush (pc := 60) 227 (by decide) dX8_pipsOn_60 ?_
        refine r_iload2 (pc := 63) dX8_pipsOn_63 ?_
        first | refine n_iadd (pc := 64) dX8_pipsOn_64 ?_ | refine z_iadd (pc := 64) dX8_pipsOn_64 ?_ | refine r_iadd (pc := 64) dX8_pipsOn_64 ?_
        refine n_iald (pc := 65) dX8_pipsOn_65 hM (by omega) (by decide) (hI.T hk) ?_
        refine r_callS2i (pc := 66) lk_X8_61 dX8_pipsOn_66 (s8_highPips hM hI hZ (by omega)) (by decide) (Nat.le_of_ble_eq_true rfl) ⟨Nat.zero_le _, Nat.zero_le _⟩ ?_
        exact r_ireturn (pc := 69) false rfl rfl rfl dX8_pipsOn_69 (Nat.zero_le _) (Nat.zero_le _) (Or.inl rfl) rfl (by rw [ep]) rfl
      · have h8 : c1 = c2 := by cases c1 <;> cases c2 <;> first | rfl | exact absurd h9 (by decide)
        rw [if_pos h8] at ep
        refine n_iconst_1 (pc := 34) dX8_pipsOn_34 ?_
        refine r_goto (pc := 35) 39 (by decide) dX8_pipsOn_35 ?_
        refine r_istore3 (pc := 39) dX8_pipsOn_39 rfl ?_
        refine r_iload3 (pc := 40) dX8_pipsOn_40 ?_
        refine b_if_eq (b := true) (pc := 41) 58 (by decide) dX8_pipsOn_41 (fun h8 => by cases h8) (fun _ => ?_)
        refine r_aload0 (pc := 44) dX8_pipsOn_44 ?_
        refine r_aload0 (pc := 45) dX8_pipsOn_45 ?_
        refine n_sipush (pc := 46) 227 (by decide) dX8_pipsOn_46 ?_
        refine r_iload2 (pc := 49) dX8_pipsOn_49 ?_
        first | refine n_iadd (pc := 50) dX8_pipsOn_50 ?_ | refine z_iadd (pc := 50) dX8_pipsOn_50 ?_ | refine r_iadd (pc := 50) dX8_pipsOn_50 ?_
        refine n_iald (pc := 51) dX8_pipsOn_51 hM (by omega) (by decide) (hI.T hk) ?_
        refine r_callS2i (pc := 52) lk_X8_64 dX8_pipsOn_52 (s8_lowPips hM hI hZ (by omega)) (by decide) (Nat.le_of_ble_eq_true rfl) ⟨Nat.zero_le _, Nat.zero_le _⟩ ?_
        refine r_goto (pc := 55) 69 (by decide) dX8_pipsOn_55 ?_
        exact r_ireturn (pc := 69) false rfl rfl rfl dX8_pipsOn_69 (Nat.zero_le _) (Nat.zero_le _) (Or.inl rfl) rfl (by rw [ep]) rfl
    refine r_aload0 (pc := 16) dX8_pipsOn_16 ?_
    refine n_sipush (pc := 17) 339 (by decide) dX8_pipsOn_17 ?_
    refine r_iload2 (pc := 20) dX8_pipsOn_20 ?_
    first | refine n_iadd (pc := 21) dX8_pipsOn_21 ?_ | refine z_iadd (pc := 21) dX8_pipsOn_21 ?_ | refine r_iadd (pc := 21) dX8_pipsOn_21 ?_
    refine n_iald (pc := 22) dX8_pipsOn_22 hM (by omega) (by decide) (hI.U hk) ?_
    refine n_if_ne (pc := 23) 30 (by decide) dX8_pipsOn_23 (by omega) (fun h9 => ?_) (fun h9 => ?_)
    · refine n_iconst_0 (pc := 30) dX8_pipsOn_30 ?_
      exact part3 false (decide_eq_false h9).symm
    · refine n_iconst_1 (pc := 26) dX8_pipsOn_26 ?_
      refine r_goto (pc := 27) 31 (by decide) dX8_pipsOn_27 ?_
      exact part3 true (decide_eq_true h9).symm
  refine r_aload0 (pc := 0) dX8_pipsOn_0 ?_
  refine r_iload1 (pc := 1) dX8_pipsOn_1 ?_
  refine r_callS2i (pc := 2) lk_X8_79 dX8_pipsOn_2 (s8_beginning hM hI hZ hs) (by decide) (Nat.le_of_ble_eq_true rfl) ⟨Nat.zero_le _, Nat.zero_le _⟩ ?_
  refine r_istore2 (pc := 5) dX8_pipsOn_5 rfl ?_
  refine r_iload2 (pc := 6) dX8_pipsOn_6 ?_
  refine r_iload1 (pc := 7) dX8_pipsOn_7 ?_
  refine n_icmp_ne (pc := 8) 15 (by decide) dX8_pipsOn_8 (by omega) (by omega) (fun h9 => ?_) (fun h9 => ?_)
  · refine n_iconst_0 (pc := 15) dX8_pipsOn_15 ?_
    exact part2 false (decide_eq_false h9).symm
  · refine n_iconst_1 (pc := 11) dX8_pipsOn_11 ?_
    refine r_goto (pc := 12) 16 (by decide) dX8_pipsOn_12 ?_
    exact part2 true (decide_eq_true h9).symm
set_option maxRecDepth 20000 in
theorem s8_partner (hM : M a = some (cI 563 f)) (hI : InvR f z) (hZ : ZOK z) {s : Nat} (hs : s < zq z) : Spec mX8_partner 2 0 0 [.ref a, .int (nI s)] M (some (.int (oI (prS z s)))) M := by
  have hd := hZ.dims
  have hqr : zq z = zr z * zc z := Nat.mul_comm _ _
  have hmod : s % zc z < zc z := Nat.mod_lt _ (by omega)
  have hdv : zc z * (s / zc z) + s % zc z = s := Nat.div_add_mod s (zc z)
  have hdl : s / zc z < zr z := Nat.div_lt_of_lt_mul hs
  refine Spec_of [some (.ref a), some (.int (nI s)), none, none] (by decide) (Nat.le_of_ble_eq_true rfl) rfl ?_
  have no : prS z s = none →
    G mX8_partner 2 (.inl false) 0 0 (dT (some (.int (oI (prS z s)))) M) none 0 0 35 [some (.ref a), some (.int (nI s)), some (.int (nI (zc z))), none] [] M
    := by
    intro e
    rw [e]
    refine r_iconst_m1 (pc := 35) dX8_partner_35 ?_
    exact r_ireturn (pc := 36) false rfl rfl rfl dX8_partner_36 (Nat.zero_le _) (Nat.zero_le _) (Or.inl rfl) rfl rfl rfl
  refine r_aload0 (pc := 0) dX8_partner_0 ?_
  refine r_callS1i (pc := 1) lk_X8_40 dX8_partner_1 (s8_wide hM hI) (by decide) (Nat.le_of_ble_eq_true rfl) ⟨Nat.zero_le _, Nat.zero_le _⟩ ?_
  refine r_istore2 (pc := 4) dX8_partner_4 rfl ?_
  refine r_iload1 (pc := 5) dX8_partner_5 ?_
  refine r_iload2 (pc := 6) dX8_partner_6 ?_
  refine n_irem (pc := 7) dX8_partner_7 (by omega) (by omega) (by omega) ?_
  refine r_iload2 (pc := 8) dX8_partner_8 ?_
  refine n_iconst_1 (pc := 9) dX8_partner_9 ?_
  refine n_isub (pc := 10) dX8_partner_10 (by omega) ?_
  refine n_icmp_eq (pc := 11) 35 (by decide) dX8_partner_11 (by omega) (by omega) (fun h1 => no ?_) (fun h1 => ?_)
  · rcases sq_cases hZ s with ⟨k, hk, ek, -, -⟩ | ⟨hn, -⟩
    · subst ek
      refine prS_none hZ hk (part_none (fun m hm => ?_))
      have hal : al z k = false := by
        rcases al_iff hZ hk with ⟨a1, a2, a3, a4⟩ | ⟨a1, -⟩
        · omega
        · exact a1
      simp [pkB, hal, h1]
    · exact prS_no hn
  · refine r_iload1 (pc := 14) dX8_partner_14 ?_
    refine r_iload2 (pc := 15) dX8_partner_15 ?_
    refine n_idiv (pc := 16) dX8_partner_16 (by omega) (by omega) (by omega) ?_
    refine r_aload0 (pc := 17) dX8_partner_17 ?_
    refine r_callS1i (pc := 18) lk_X8_44 dX8_partner_18 (s8_high hM hI) (by decide) (Nat.le_of_ble_eq_true rfl) ⟨Nat.zero_le _, Nat.zero_le _⟩ ?_
    refine n_iconst_1 (pc := 21) dX8_partner_21 ?_
    refine n_isub (pc := 22) dX8_partner_22 (by omega) ?_
    refine n_icmp_ge (pc := 23) 35 (by decide) dX8_partner_23 (by omega) (by omega) (fun h2 => no ?_) (fun h2 => ?_)
    · have hlast : zq z ≤ s + zc z := by
        have h3 : zc z * (zr z - 1) ≤ zc z * (s / zc z) := Nat.mul_le_mul_left _ h2
        have h4 : zc z * (zr z - 1) + zc z = zc z * zr z := by rw [← Nat.mul_succ]; congr 1; omega
        have h5 : zq z = zc z * zr z := rfl
        omega
      rcases sq_cases hZ s with ⟨k, hk, ek, -, -⟩ | ⟨hn, -⟩
      · subst ek
        refine prS_none hZ hk ?_
        have hf := hZ.fo hk
        cases hp : part z k with
        | none => rfl
        | some l =>
          exfalso
          obtain ⟨p1, p2, p3⟩ := part_F hZ hp
          have hl := hZ.fq (part_lt hZ hp)
          rcases al_iff hZ hk with ⟨a1, a2, a3, a4⟩ | ⟨a1, a2, a4⟩
          · unfold stt at p1
            rw [a1] at p1
            simp at p1
            omega
          · omega
      · exact prS_no hn
    · have hin : s + zc z < zq z := by
        have h3 : zc z * (s / zc z + 1) ≤ zc z * (zr z - 1) := Nat.mul_le_mul_left _ (by omega)
        have h4 : zc z * (zr z - 1) + zc z = zc z * zr z := by rw [← Nat.mul_succ]; congr 1; omega
        have h5 : zq z = zc z * zr z := rfl
        rw [Nat.mul_add, Nat.mul_one] at h3
        omega
      rcases sq_cases hZ s with ⟨k, hk, ek, -, -⟩ | ⟨hn, -⟩
      · subst ek
        have hlp := lz_pos z k
        refine r_aload0 (pc := 26) dX8_partner_26 ?_
        refine n_bipush (pc := 27) 115 (by decide) dX8_partner_27 ?_
        refine r_iload1 (pc := 29) dX8_partner_29 ?_
        first | refine n_iadd (pc := 30) dX8_partner_30 ?_ | refine z_iadd (pc := 30) dX8_partner_30 ?_ | refine r_iadd (pc := 30) dX8_partner_30 ?_
        refine n_iald (pc := 31) dX8_partner_31 hM (by omega) (by decide) (hI.L hk) ?_
        refine n_if_ne (pc := 32) 37 (by decide) dX8_partner_32 (by omega) (fun _ => ?_) (fun h9 => absurd h9 (by omega))
        refine r_aload0 (pc := 37) dX8_partner_37 ?_
        refine n_bipush (pc := 38) 115 (by decide) dX8_partner_38 ?_
        refine r_iload1 (pc := 40) dX8_partner_40 ?_
        first | refine n_iadd (pc := 41) dX8_partner_41 ?_ | refine z_iadd (pc := 41) dX8_partner_41 ?_ | refine r_iadd (pc := 41) dX8_partner_41 ?_
        refine n_iald (pc := 42) dX8_partner_42 hM (by omega) (by decide) (hI.L hk) ?_
        refine n_iconst_1 (pc := 43) dX8_partner_43 ?_
        have fin : ∀ o, o < zq z → o = stt z k → (al z k = false → zF z k % zc z ≠ zc z - 1) →
          G mX8_partner 2 (.inl false) 0 0 (dT (some (.int (oI (prS z (zF z k))))) M) none 0 0 57 [some (.ref a), some (.int (nI (zF z k))), some (.int (nI (zc z))), some (.int (nI o))] [] M
          := by
          intro o ho eo hc
          rcases sq_cases hZ o with ⟨l, hl, el, -, -⟩ | ⟨hn, -⟩
          · have hll := lz_pos z l
            have hLl : f (115 + o) = nI (lz z l) := by rw [← el]; exact hI.L hl
            refine r_aload0 (pc := 57) dX8_partner_57 ?_
            refine n_bipush (pc := 58) 115 (by decide) dX8_partner_58 ?_
            refine r_iload3 (pc := 60) dX8_partner_60 ?_
            first | refine n_iadd (pc := 61) dX8_partner_61 ?_ | refine z_iadd (pc := 61) dX8_partner_61 ?_ | refine r_iadd (pc := 61) dX8_partner_61 ?_
            refine n_iald (pc := 62) dX8_partner_62 hM (by omega) (by decide) hLl ?_
            refine r_aload0 (pc := 63) dX8_partner_63 ?_
            refine n_bipush (pc := 64) 115 (by decide) dX8_partner_64 ?_
            refine r_iload1 (pc := 66) dX8_partner_66 ?_
            first | refine n_iadd (pc := 67) dX8_partner_67 ?_ | refine z_iadd (pc := 67) dX8_partner_67 ?_ | refine r_iadd (pc := 67) dX8_partner_67 ?_
            refine n_iald (pc := 68) dX8_partner_68 hM (by omega) (by decide) (hI.L hk) ?_
            refine n_icmp_ne (pc := 69) 76 (by decide) dX8_partner_69 (by omega) (by omega) (fun h9 => ?_) (fun h9 => ?_)
            · have hp : part z k = none := part_none (fun m hm => by
                by_cases q : zF z m = stt z k
                · have : m = l := hZ.finj hm hl (by rw [q, el, eo])
                  subst this
                  have hne : al z m ≠ al z k := fun q2 => h9 (by unfold lz; rw [q2])
                  simp [pkB, hne]
                · simp [pkB, q])
              rw [prS_none hZ hk hp]
              refine r_iconst_m1 (pc := 76) dX8_partner_76 ?_
              exact r_ireturn (pc := 77) false rfl rfl rfl dX8_partner_77 (Nat.zero_le _) (Nat.zero_le _) (Or.inl rfl) rfl rfl rfl
            · have hp : part z k = some l := (part_spec hZ).mpr ⟨hl, by
                have hal : al z l = al z k := by
                  unfold lz at h9
                  cases h1 : al z l <;> cases h2 : al z k <;> rw [h1, h2] at h9 <;> first | rfl | exact absurd h9 (by decide)
                simp only [pkB, Bool.and_eq_true, Bool.or_eq_true, decide_eq_true_eq, beq_iff_eq]
                refine ⟨⟨by rw [el, eo], hal⟩, ?_⟩
                cases h1 : al z k with
                | true => exact Or.inl rfl
                | false => exact Or.inr (hc h1)⟩
              rw [prS_some hZ hk hp]
              refine r_iload3 (pc := 72) dX8_partner_72 ?_
              refine r_goto (pc := 73) 77 (by decide) dX8_partner_73 ?_
              exact r_ireturn (pc := 77) false rfl rfl rfl dX8_partner_77 (Nat.zero_le _) (Nat.zero_le _) (Or.inl rfl) rfl (by rw [el]; rfl) rfl
          · have hp : part z k = none := part_none (fun m hm => by
              have q : zF z m ≠ stt z k := by rw [← eo]; exact hn m hm
              simp [pkB, q])
            have hL0 : f (115 + o) = nI 0 := hI.Z ho hn
            rw [prS_none hZ hk hp]
            refine r_aload0 (pc := 57) dX8_partner_57 ?_
            refine n_bipush (pc := 58) 115 (by decide) dX8_partner_58 ?_
            refine r_iload3 (pc := 60) dX8_partner_60 ?_
            first | refine n_iadd (pc := 61) dX8_partner_61 ?_ | refine z_iadd (pc := 61) dX8_partner_61 ?_ | refine r_iadd (pc := 61) dX8_partner_61 ?_
            refine n_iald (pc := 62) dX8_partner_62 hM (by omega) (by decide) hL0 ?_
            refine r_aload0 (pc := 63) dX8_partner_63 ?_
            refine n_bipush (pc := 64) 115 (by decide) dX8_partner_64 ?_
            refine r_iload1 (pc := 66) dX8_partner_66 ?_
            first | refine n_iadd (pc := 67) dX8_partner_67 ?_ | refine z_iadd (pc := 67) dX8_partner_67 ?_ | refine r_iadd (pc := 67) dX8_partner_67 ?_
            refine n_iald (pc := 68) dX8_partner_68 hM (by omega) (by decide) (hI.L hk) ?_
            refine n_icmp_ne (pc := 69) 76 (by decide) dX8_partner_69 (by omega) (by omega) (fun _ => ?_) (fun h9 => absurd h9 (by omega))
            refine r_iconst_m1 (pc := 76) dX8_partner_76 ?_
            exact r_ireturn (pc := 77) false rfl rfl rfl dX8_partner_77 (Nat.zero_le _) (Nat.zero_le _) (Or.inl rfl) rfl rfl rfl
        rcases al_iff hZ hk with ⟨a1, a2, a3, a4⟩ | ⟨a1, a2, a4⟩
        · rw [a4]
          refine n_icmp_ne (pc := 44) 53 (by decide) dX8_partner_44 (by omega) (by omega) (fun hc44 => absurd hc44 (by omega)) (fun hc44 => ?_)
          refine r_iload1 (pc := 47) dX8_partner_47 ?_
          refine r_iload2 (pc := 48) dX8_partner_48 ?_
          first | refine n_iadd (pc := 49) dX8_partner_49 ?_ | refine z_iadd (pc := 49) dX8_partner_49 ?_ | refine r_iadd (pc := 49) dX8_partner_49 ?_
          refine r_goto (pc := 50) 56 (by decide) dX8_partner_50 ?_
          refine r_istore3 (pc := 56) dX8_partner_56 rfl ?_
          exact fin _ hin (by unfold stt; rw [a1]; rfl) (fun q => by rw [a1] at q; cases q)
        · rw [a4]
          refine n_icmp_ne (pc := 44) 53 (by decide) dX8_partner_44 (by omega) (by omega) (fun hc44 => ?_) (fun hc44 => absurd hc44 (by omega))
          refine r_iload1 (pc := 53) dX8_partner_53 ?_
          refine n_iconst_1 (pc := 54) dX8_partner_54 ?_
          first | refine n_iadd (pc := 55) dX8_partner_55 ?_ | refine z_iadd (pc := 55) dX8_partner_55 ?_ | refine r_iadd (pc := 55) dX8_partner_55 ?_
          refine r_istore3 (pc := 56) dX8_partner_56 rfl ?_
          exact fin _ (by omega) (by unfold stt; rw [a1]; rfl) (fun _ => h1)
      · refine r_aload0 (pc := 26) dX8_partner_26 ?_
        refine n_bipush (pc := 27) 115 (by decide) dX8_partner_27 ?_
        refine r_iload1 (pc := 29) dX8_partner_29 ?_
        first | refine n_iadd (pc := 30) dX8_partner_30 ?_ | refine z_iadd (pc := 30) dX8_partner_30 ?_ | refine r_iadd (pc := 30) dX8_partner_30 ?_
        refine n_iald (pc := 31) dX8_partner_31 hM (by omega) (by decide) (hI.Z hs hn) ?_
        refine n_if_ne (pc := 32) 37 (by decide) dX8_partner_32 (by omega) (fun h9 => absurd rfl h9) (fun _ => no (prS_no hn))
end RREAD

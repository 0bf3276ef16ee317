section STRR
variable {q : MI} {d : Nat} {x : XM} {mc ms : Nat} {oc : TG} {al : Option Nat} {cs ss pc : Nat} {lv : List (Option Value)} {st : List Value} {M : Mem}
theorem wS_v : Cond.fieldLink "java/lang/String" 9 "java/lang/String" "value" "[B" ∈ tblG := (tG 1053 (by decide +kernel) (by decide +kernel))
theorem wS_c : Cond.fieldLink "java/lang/String" 15 "java/lang/String" "coder" "B" ∈ tblG := (tG 1054 (by decide +kernel) (by decide +kernel))
theorem wS_z : Cond.fieldLink "java/lang/String" 38 "java/lang/String" "COMPACT_STRINGS" "Z" ∈ tblG := (tG 440 (by decide +kernel) (by decide +kernel))
theorem wS_f : Cond.fieldLink "java/lang/String" 1053 "jdk/internal/util/Preconditions" "SIOOBE_FORMATTER" "Ljava/util/function/BiFunction;" ∈ tblG := (tG 456 (by decide +kernel) (by decide +kernel))
theorem r_strv {kk idx : Nat} (hk : kk < 10) (hw : Cond.fieldLink q.1.cls idx "java/lang/String" "value" "[B" ∈ tblG) (h0 : dec q pc = .ok (.getfield idx, 3)) (k : G q d x mc ms oc al cs ss (pc + 3) lv (.ref (3000 + kk) :: st) M) : G q d x mc ms oc al cs ss pc lv (.ref (2000 + kk) :: st) M := by
  intro p l e R s m args below meth c H locs Q D nx nz ad ca A ls C hd hP hS hal hl
  obtain ⟨hx, hb, hml, hr, hown, hts, hK, hE, hA, hJ, hAd, hlk, hst, hRm, hmd⟩ := id C
  exact vk_getf hx hb ((hE.2.1).1 kk hk).2.2.1 hS hown (hts _ hw) (fun _ h9 => h9) h0 (k p l e R s m args below meth c H locs Q D nx nz ad ca A ls C hd hP hS hal hl)
theorem r_strc {kk idx : Nat} (hk : kk < 10) (hw : Cond.fieldLink q.1.cls idx "java/lang/String" "coder" "B" ∈ tblG) (h0 : dec q pc = .ok (.getfield idx, 3)) (k : G q d x mc ms oc al cs ss (pc + 3) lv (.int (nI 0) :: st) M) : G q d x mc ms oc al cs ss pc lv (.ref (2000 + kk) :: st) M := by
  intro p l e R s m args below meth c H locs Q D nx nz ad ca A ls C hd hP hS hal hl
  obtain ⟨hx, hb, hml, hr, hown, hts, hK, hE, hA, hJ, hAd, hlk, hst, hRm, hmd⟩ := id C
  exact vk_getf hx hb ((hE.2.1).1 kk hk).2.1 hS hown (hts _ hw) (fun _ h9 => h9) h0 (k p l e R s m args below meth c H locs Q D nx nz ad ca A ls C hd hP hS hal hl)
theorem r_blen {kk n : Nat} (hk : kk < 10) (hn : sLen.getD kk 0 = n) (h0 : dec q pc = .ok (.arraylength, 1)) (k : G q d x mc ms oc al cs ss (pc + 1) lv (.int (nI n) :: st) M) : G q d x mc ms oc al cs ss pc lv (.ref (3000 + kk) :: st) M := by
  intro p l e R s m args below meth c H locs Q D nx nz ad ca A ls C hd hP hS hal hl
  obtain ⟨hx, hb, hml, hr, hown, hts, hK, hE, hA, hJ, hAd, hlk, hst, hRm, hmd⟩ := id C
  exact va_tlen hx hb ((hE.2.1).1 kk hk).2.2.2 hS (by rw [hn]; rfl) h0 (k p l e R s m args below meth c H locs Q D nx nz ad ca A ls C hd hP hS hal hl)
theorem r_bald {kk i n : Nat} {v : Int32} (hk : kk < 10) (hn : sLen.getD kk 0 = n) (hi : i < n) (hn2 : n < 2147483648) (hv : (sByt.getD kk []).getD i 0 = v) (h0 : dec q pc = .ok (.baload, 1)) (k : G q d x mc ms oc al cs ss (pc + 1) lv (.int v :: st) M) : G q d x mc ms oc al cs ss pc lv (.int (nI i) :: .ref (3000 + kk) :: st) M := by
  intro p l e R s m args below meth c H locs Q D nx nz ad ca A ls C hd hP hS hal hl
  obtain ⟨hx, hb, hml, hr, hown, hts, hK, hE, hA, hJ, hAd, hlk, hst, hRm, hmd⟩ := id C
  exact va_tb hx hb ((hE.2.1).1 kk hk).2.2.2 hS (by rw [hn]; exact vp_in_nI hi hn2) (by rw [nI_clamp (by omega), hv]; rfl) h0 (k p l e R s m args below meth c H locs Q D nx nz ad ca A ls C hd hP hS hal hl)
theorem r_getsC {idx : Nat} (hw : Cond.fieldLink q.1.cls idx "java/lang/String" "COMPACT_STRINGS" "Z" ∈ tblG) (h0 : dec q pc = .ok (.getstatic idx, 3)) (k : G q d x mc ms oc al cs ss (pc + 3) lv (.int (nI 1) :: st) M) : G q d x mc ms oc al cs ss pc lv st M := by
  intro p l e R s m args below meth c H locs Q D nx nz ad ca A ls C hd hP hS hal hl
  obtain ⟨hx, hb, hml, hr, hown, hts, hK, hE, hA, hJ, hAd, hlk, hst, hRm, hmd⟩ := id C
  exact va_gets hx hb hE.2.2.2.2.1.1 hS hown (hts _ hw) (fun _ h9 => h9) h0 (k p l e R s m args below meth c H locs Q D nx nz ad ca A ls C hd hP hS hal hl)
theorem r_getsF {idx : Nat} (hw : Cond.fieldLink q.1.cls idx "jdk/internal/util/Preconditions" "SIOOBE_FORMATTER" "Ljava/util/function/BiFunction;" ∈ tblG) (h0 : dec q pc = .ok (.getstatic idx, 3)) (k : ∀ v : Value, (v = .null ∨ v = .ref 4000) → G q d x mc ms oc al cs ss (pc + 3) lv (v :: st) M) : G q d x mc ms oc al cs ss pc lv st M := by
  intro p l e R s m args below meth c H locs Q D nx nz ad ca A ls C hd hP hS hal hl
  obtain ⟨hx, hb, hml, hr, hown, hts, hK, hE, hA, hJ, hAd, hlk, hst, hRm, hmd⟩ := id C
  obtain ⟨v, hv, hZ⟩ := hE.2.2.2.2.1.2
  exact va_gets hx hb hZ hS hown (hts _ hw) (fun _ h9 => h9) h0 (k v hv p l e R s m args below meth c H locs Q D nx nz ad ca A ls C hd hP hS hal hl)
theorem r_ishr {a b : Int32} (h0 : dec q pc = .ok (.ishr, 1)) (k : G q d x mc ms oc al cs ss (pc + 1) lv (.int (a >>> (b &&& 31)) :: st) M) : G q d x mc ms oc al cs ss pc lv (.int b :: .int a :: st) M := by
  intro p l e R s m args below meth c H locs Q D nx nz ad ca A ls C hd hP hS hal hl
  obtain ⟨hx, hb, hml, hr, hown, hts, hK, hE, hA, hJ, hAd, hlk, hst, hRm, hmd⟩ := id C
  exact lv_ishr hx hb h0 (k p l e R s m args below meth c H locs Q D nx nz ad ca A ls C hd hP hS hal hl)
def LkT (own : String) (idx : Nat) (y : MI) (n : Nat) : Prop := Cond.methodLink own idx y.1 ∈ tblG ∧ Cond.instanceMethod y.1 ∈ tblG ∧ Cond.selects y.1.cls y.1 y.1 ∈ tblG ∧ Cond.initialized y.1.cls ∈ tblG ∧ Cond.code y.1 (mC y) (mL y) (mR y) ∈ tblG ∧ nMH y.1 ∧ nPar y.1 = some n ∧ mL y ≤ 21 ∧ y.1.cls = "java/lang/String"
theorem G_callT {y : MI} {d' n idx mc' ms' : Nat} {as rest : List Value} {oc' : TG} {kk : Nat} (lk : LkT q.1.cls idx y n) (h0 : dec q pc = .ok (.invokevirtual idx, 3)) (hk : kk < 10) (hsp : SpecP y d' mc' ms' (.ref (2000 + kk) :: as) M oc') (g_d : d' + 1 ≤ d) (hn : as.length = n) (hW : (rest.map fun v => v.category).sum ≤ 8) (hcs : cs + mc' ≤ mc ∧ ss + ms' ≤ ms) (hal0 : al = none ∨ mc' = 0)
    (k : ∀ (r : Option Value) (M1 : Mem), oc' (.inl r) M1 → G q d x mc ms oc al (cs + mc') (ss + ms') (pc + 3) lv (r.toList ++ rest) M1) : G q d x mc ms oc al cs ss pc lv (as.reverse ++ .ref (2000 + kk) :: rest) M := by
  intro p l e R s m args below meth c H locs Q D nx nz ad ca A ls C hd hP hS hal hl
  obtain ⟨hx, hb, hml, hr, hown, hts, hK, hE, hA, hJ, hAd, hlk, hst, hRm, hmd⟩ := id C
  obtain ⟨g_l, g_s, g_se, g_i, g_c, g_m, g_p, g_x, g_v⟩ := lk
  refine p_call (A1 := pAA nx ad H.size) (D := D) (nz := nx) (ad := ad) (ca := ca) (oc' := oc') (rest := rest.map (cvV ad)) (va_runV (As := as.map (cvV ad)) (b := ad (2000 + kk)) (C := y.1.cls) (n := n) ⟨hx, hb, hml, hown, hts⟩ (hsp l D nx ad ca H.size hst) ⟨⟨rfl, rfl, Nat.le_trans g_d hRm.1, by show 8 + (mL y + 11) + 40 * d' ≤ R.locals; have := hRm.2.1; omega, wsU_warm hts g_c, List.mem_cons_self, hts _ g_c, hts _ g_i, g_m, fun sig h => by unfold nPar at g_p; rw [h] at g_p; exact (Option.some.inj g_p).symm, hts _ g_l⟩, hts _ g_s, hts _ g_se⟩ ⟨pPre_blind, by rw [g_v]; exact vk_recv (i := kk) hE.2.1 hk hS, fun U hU hW => ⟨rfl, by rw [hU], hd, hJ, by rw [hU]; exact hP, va_K.moved hW.alike hK, by rw [hU]; exact pE.go hE hS hW (p_sub hS hA hAd)⟩⟩ rfl (by rw [List.length_map]; exact hn) (by show ls.size = mL q; exact hl.size) (by show _ = _; rw [List.map_append, List.map_reverse]; rfl) (by show 2 * 0 + _ ≤ 8; rw [cv_sum]; omega) h0 (by have := hRm.2.2; omega)) hS (p_sub hS hA hAd) (fun r M1 H1 locs1 ho1 hd1 hP1 hS1 => ?_)
  have e9 : (r.map (cvV ad)).toList ++ rest.map (cvV ad) = (r.toList ++ rest).map (cvV ad) := by cases r <;> simp
  rw [e9]
  exact k r M1 ho1 p l e R s m args below meth c H1 locs1 Q D nx nz ad ca A ls C hd1 hP1 hS1 (by rcases hal0 with h | h <;> subst h <;> exact hal) hl
theorem r_callT0i {y : MI} {d' idx kk : Nat} {M1 : Mem} {v : Value} (lk : LkT q.1.cls idx y 0) (h0 : dec q pc = .ok (.invokevirtual idx, 3)) (hk : kk < 10) (hsp : Spec y d' 0 0 (.ref (2000 + kk) :: []) M (some v) M1) (g_d : d' + 1 ≤ d) (hW : (st.map fun v => v.category).sum ≤ 8) (hcs : cs ≤ mc ∧ ss ≤ ms) (k : G q d x mc ms oc al cs ss (pc + 3) lv (v :: st) M1) : G q d x mc ms oc al cs ss pc lv (.ref (2000 + kk) :: st) M := G_callT (as := []) lk h0 hk hsp g_d rfl hW hcs (Or.inr rfl) (fun r9 M9 h9 => by obtain ⟨e8, e9⟩ := h9; cases e8; subst e9; exact k)
theorem r_callT1i {y : MI} {d' idx kk : Nat} {M1 : Mem} {w1 : Value} {v : Value} (lk : LkT q.1.cls idx y 1) (h0 : dec q pc = .ok (.invokevirtual idx, 3)) (hk : kk < 10) (hsp : Spec y d' 0 0 (.ref (2000 + kk) :: [w1]) M (some v) M1) (g_d : d' + 1 ≤ d) (hW : (st.map fun v => v.category).sum ≤ 8) (hcs : cs ≤ mc ∧ ss ≤ ms) (k : G q d x mc ms oc al cs ss (pc + 3) lv (v :: st) M1) : G q d x mc ms oc al cs ss pc lv (w1 :: .ref (2000 + kk) :: st) M := G_callT (as := [w1]) lk h0 hk hsp g_d rfl hW hcs (Or.inr rfl) (fun r9 M9 h9 => by obtain ⟨e8, e9⟩ := h9; cases e8; subst e9; exact k)
end STRR
theorem lkT_X6_42 : LkT RX6 42 mJ0_length_8abf5 0 := ⟨(tG 432 (by decide +kernel) (by decide +kernel)), (tG 433 (by decide +kernel) (by decide +kernel)), (tG 434 (by decide +kernel) (by decide +kernel)), (tG 31 (by decide +kernel) (by decide +kernel)), (tG 435 (by decide +kernel) (by decide +kernel)), by decide +kernel, by decide +kernel, by decide, rfl⟩
theorem lkT_X6_45 : LkT RX6 45 mJ0_charAt_5068e 1 := ⟨(tG 442 (by decide +kernel) (by decide +kernel)), (tG 443 (by decide +kernel) (by decide +kernel)), (tG 444 (by decide +kernel) (by decide +kernel)), (tG 31 (by decide +kernel) (by decide +kernel)), (tG 445 (by decide +kernel) (by decide +kernel)), by decide +kernel, by decide +kernel, by decide, rfl⟩
theorem lkT_X6_36 : LkT RX6 36 mJ0_isEmpty_aae02 0 := ⟨(tG 499 (by decide +kernel) (by decide +kernel)), (tG 500 (by decide +kernel) (by decide +kernel)), (tG 501 (by decide +kernel) (by decide +kernel)), (tG 31 (by decide +kernel) (by decide +kernel)), (tG 502 (by decide +kernel) (by decide +kernel)), by decide +kernel, by decide +kernel, by decide, rfl⟩
theorem lkT_J0_335 : LkT RJ0 335 mJ0_coder_7d493 0 := ⟨(tG 436 (by decide +kernel) (by decide +kernel)), (tG 437 (by decide +kernel) (by decide +kernel)), (tG 438 (by decide +kernel) (by decide +kernel)), (tG 31 (by decide +kernel) (by decide +kernel)), (tG 439 (by decide +kernel) (by decide +kernel)), by decide +kernel, by decide +kernel, by decide, rfl⟩
theorem lkT_J0_492 : LkT RJ0 492 mJ0_isLatin1_aae02 0 := ⟨(tG 446 (by decide +kernel) (by decide +kernel)), (tG 447 (by decide +kernel) (by decide +kernel)), (tG 448 (by decide +kernel) (by decide +kernel)), (tG 31 (by decide +kernel) (by decide +kernel)), (tG 449 (by decide +kernel) (by decide +kernel)), by decide +kernel, by decide +kernel, by decide, rfl⟩
/-- the signs of the string constants -/
def chS (k i : Nat) : Nat := (([[68, 110, 115], [112, 120, 89, 121, 100, 100], [102, 100, 100, 100, 100], [116, 75, 107], [115, 75, 107, 75, 107], [98, 120, 89, 121], [104, 75, 107], [108], [105, 67, 99], []] : List (List Nat)).getD k []).getD i 0
def ckC (k i : Nat) : Bool := decide ((((sByt.getD k []).getD i 0 &&& nI 255).toUInt32 % 65536).toInt32 = nI (chS k i)) && decide (chS k i < 256)
theorem ckC_all : (List.range 10).all (fun k => (List.range (sLen.getD k 0)).all (fun i => ckC k i)) = true := by decide +kernel
theorem chS_eq {k i : Nat} (hk : k < 10) (hi : i < sLen.getD k 0) : (((sByt.getD k []).getD i 0 &&& nI 255).toUInt32 % 65536).toInt32 = nI (chS k i) ∧ chS k i < 256 := by
  have h := List.all_eq_true.mp (List.all_eq_true.mp ckC_all k (List.mem_range.mpr hk)) i (List.mem_range.mpr hi)
  unfold ckC at h
  rw [Bool.and_eq_true] at h
  exact ⟨of_decide_eq_true h.1, of_decide_eq_true h.2⟩
theorem sLen_le {k : Nat} (hk : k < 10) : sLen.getD k 0 ≤ 6 := by
  have h : ∀ k, k < 10 → sLen.getD k 0 ≤ 6 := by decide
  exact h k hk
theorem narC {c : Nat} (h : c < 65536) : narrow .char (.int (nI c)) = .int (nI c) := by
  show Value.int ((nI c).toUInt32 % 65536).toInt32 = _
  rw [i2c_nI h]
section JSTR
variable {M : Mem}
theorem s_Pci {i n : Nat} (hi : i < n) (hn : n < 2147483648) {v : Value} (hv : v = .null ∨ v = .ref 4000) : Spec mJ3_checkIndex_8e157 1 0 0 [.int (nI i), .int (nI n), v] M (some (.int (nI i))) M := by
  rcases hv with rfl | rfl
  · refine Spec_of [some (.int (nI i)), some (.int (nI n)), some .null] (by decide) (Nat.le_of_ble_eq_true rfl) rfl ?_
    refine r_iload0 (pc := 0) dJ3_checkIndex_8e157_0 ?_
    refine n_if_lt (pc := 1) 9 (by decide) dJ3_checkIndex_8e157_1 (by omega) ?_
    refine r_iload0 (pc := 4) dJ3_checkIndex_8e157_4 ?_
    refine r_iload1 (pc := 5) dJ3_checkIndex_8e157_5 ?_
    refine n_icmp_lt (pc := 6) 16 (by decide) dJ3_checkIndex_8e157_6 (by omega) (by omega) (fun hc6 => ?_) (fun hc6 => absurd hc6 (by omega))
    refine r_iload0 (pc := 16) dJ3_checkIndex_8e157_16 ?_
    exact r_ireturn (pc := 17) false rfl rfl rfl dJ3_checkIndex_8e157_17 (Nat.zero_le _) (Nat.zero_le _) (Or.inl rfl) rfl rfl rfl
  · refine Spec_of [some (.int (nI i)), some (.int (nI n)), some (.ref 4000)] (by decide) (Nat.le_of_ble_eq_true rfl) rfl ?_
    refine r_iload0 (pc := 0) dJ3_checkIndex_8e157_0 ?_
    refine n_if_lt (pc := 1) 9 (by decide) dJ3_checkIndex_8e157_1 (by omega) ?_
    refine r_iload0 (pc := 4) dJ3_checkIndex_8e157_4 ?_
    refine r_iload1 (pc := 5) dJ3_checkIndex_8e157_5 ?_
    refine n_icmp_lt (pc := 6) 16 (by decide) dJ3_checkIndex_8e157_6 (by omega) (by omega) (fun hc6 => ?_) (fun hc6 => absurd hc6 (by omega))
    refine r_iload0 (pc := 16) dJ3_checkIndex_8e157_16 ?_
    exact r_ireturn (pc := 17) false rfl rfl rfl dJ3_checkIndex_8e157_17 (Nat.zero_le _) (Nat.zero_le _) (Or.inl rfl) rfl rfl rfl
theorem s_Sci {i n : Nat} (hi : i < n) (hn : n < 2147483648) : Spec mJ0_checkIndex_df160 2 0 0 [.int (nI i), .int (nI n)] M none M := by
  refine Spec_of [some (.int (nI i)), some (.int (nI n))] (by decide) (Nat.le_of_ble_eq_true rfl) rfl ?_
  refine r_iload0 (pc := 0) dJ0_checkIndex_df160_0 ?_
  refine r_iload1 (pc := 1) dJ0_checkIndex_df160_1 ?_
  refine r_getsF (pc := 2) wS_f dJ0_checkIndex_df160_2 (fun v hv => ?_)
  refine r_callS3i (pc := 5) lk_J0_1059 dJ0_checkIndex_df160_5 (s_Pci hi hn hv) (by decide) (Nat.le_of_ble_eq_true rfl) ⟨Nat.zero_le _, Nat.zero_le _⟩ ?_
  refine r_pop (pc := 8) dJ0_checkIndex_df160_8 rfl ?_
  exact r_return (pc := 9) false rfl rfl dJ0_checkIndex_df160_9 (Nat.zero_le _) (Nat.zero_le _) (Or.inl rfl) rfl rfl
theorem s_L1c {k i : Nat} (hk : k < 10) (hi : i < sLen.getD k 0) : Spec mJ1_charAt_3b067 3 0 0 [.ref (3000 + k), .int (nI i)] M (some (.int (nI (chS k i)))) M := by
  have hl := sLen_le hk
  obtain ⟨e1, e2⟩ := chS_eq hk hi
  refine Spec_of [some (.ref (3000 + k)), some (.int (nI i))] (by decide) (Nat.le_of_ble_eq_true rfl) rfl ?_
  refine r_iload1 (pc := 0) dJ1_charAt_3b067_0 ?_
  refine r_aload0 (pc := 1) dJ1_charAt_3b067_1 ?_
  refine r_blen (pc := 2) hk rfl dJ1_charAt_3b067_2 ?_
  refine r_callS2v (pc := 3) lk_J1_9 dJ1_charAt_3b067_3 (s_Sci hi (by omega)) (by decide) (Nat.le_of_ble_eq_true rfl) ⟨Nat.zero_le _, Nat.zero_le _⟩ ?_
  refine r_aload0 (pc := 6) dJ1_charAt_3b067_6 ?_
  refine r_iload1 (pc := 7) dJ1_charAt_3b067_7 ?_
  refine r_bald (pc := 8) hk rfl hi (by omega) rfl dJ1_charAt_3b067_8 ?_
  refine n_sipush (pc := 9) 255 (by decide) dJ1_charAt_3b067_9 ?_
  refine r_iand (pc := 12) dJ1_charAt_3b067_12 ?_
  refine r_i2c (pc := 13) dJ1_charAt_3b067_13 ?_
  rw [e1]
  exact r_ireturn (pc := 14) false rfl rfl (narC (by omega)) dJ1_charAt_3b067_14 (Nat.zero_le _) (Nat.zero_le _) (Or.inl rfl) rfl rfl rfl
theorem s_coder {k : Nat} (hk : k < 10) : Spec mJ0_coder_7d493 1 0 0 [.ref (2000 + k)] M (some (.int (nI 0))) M := by
  refine Spec_of [some (.ref (2000 + k))] (by decide) (Nat.le_of_ble_eq_true rfl) rfl ?_
  refine r_getsC (pc := 0) wS_z dJ0_coder_7d493_0 ?_
  refine n_if_eq (pc := 3) 13 (by decide) dJ0_coder_7d493_3 (by omega) (fun hc3 => absurd hc3 (by omega)) (fun hc3 => ?_)
  refine r_aload0 (pc := 6) dJ0_coder_7d493_6 ?_
  refine r_strc (pc := 7) hk wS_c dJ0_coder_7d493_7 ?_
  refine r_goto (pc := 10) 14 (by decide) dJ0_coder_7d493_10 ?_
  exact r_ireturn (pc := 14) false rfl rfl (by decide) dJ0_coder_7d493_14 (Nat.zero_le _) (Nat.zero_le _) (Or.inl rfl) rfl rfl rfl
theorem s_isLatin1 {k : Nat} (hk : k < 10) : Spec mJ0_isLatin1_aae02 1 0 0 [.ref (2000 + k)] M (some (.int (bI true))) M := by
  refine Spec_of [some (.ref (2000 + k))] (by decide) (Nat.le_of_ble_eq_true rfl) rfl ?_
  refine r_getsC (pc := 0) wS_z dJ0_isLatin1_aae02_0 ?_
  refine n_if_eq (pc := 3) 17 (by decide) dJ0_isLatin1_aae02_3 (by omega) (fun hc3 => absurd hc3 (by omega)) (fun hc3 => ?_)
  refine r_aload0 (pc := 6) dJ0_isLatin1_aae02_6 ?_
  refine r_strc (pc := 7) hk wS_c dJ0_isLatin1_aae02_7 ?_
  refine n_if_ne (pc := 10) 17 (by decide) dJ0_isLatin1_aae02_10 (by omega) (fun hc10 => absurd hc10 (by omega)) (fun hc10 => ?_)
  refine n_iconst_1 (pc := 13) dJ0_isLatin1_aae02_13 ?_
  refine r_goto (pc := 14) 18 (by decide) dJ0_isLatin1_aae02_14 ?_
  exact r_ireturn (pc := 18) false rfl rfl (by decide) dJ0_isLatin1_aae02_18 (Nat.zero_le _) (Nat.zero_le _) (Or.inl rfl) rfl rfl rfl
theorem shr0 {n : Nat} (h : n ≤ 6) : nI n >>> (nI 0 &&& 31) = nI n := by
  have c : n = 0 ∨ n = 1 ∨ n = 2 ∨ n = 3 ∨ n = 4 ∨ n = 5 ∨ n = 6 := by omega
  rcases c with e | e | e | e | e | e | e <;> subst e <;> decide
theorem s_strLen {k n : Nat} (hk : k < 10) (hn : sLen.getD k 0 = n) : Spec mJ0_length_8abf5 2 0 0 [.ref (2000 + k)] M (some (.int (nI n))) M := by
  have hl := sLen_le hk
  refine Spec_of [some (.ref (2000 + k))] (by decide) (Nat.le_of_ble_eq_true rfl) rfl ?_
  refine r_aload0 (pc := 0) dJ0_length_8abf5_0 ?_
  refine r_strv (pc := 1) hk wS_v dJ0_length_8abf5_1 ?_
  refine r_blen (pc := 4) hk hn dJ0_length_8abf5_4 ?_
  refine r_aload0 (pc := 5) dJ0_length_8abf5_5 ?_
  refine r_callT0i (pc := 6) lkT_J0_335 dJ0_length_8abf5_6 hk (s_coder hk) (by decide) (Nat.le_of_ble_eq_true rfl) ⟨Nat.zero_le _, Nat.zero_le _⟩ ?_
  refine r_ishr (pc := 9) dJ0_length_8abf5_9 ?_
  rw [shr0 (by omega)]
  exact r_ireturn (pc := 10) false rfl rfl rfl dJ0_length_8abf5_10 (Nat.zero_le _) (Nat.zero_le _) (Or.inl rfl) rfl rfl rfl
theorem s_strEmpty {k n : Nat} (hk : k < 10) (hn : sLen.getD k 0 = n) : Spec mJ0_isEmpty_aae02 1 0 0 [.ref (2000 + k)] M (some (.int (bI (decide (n = 0))))) M := by
  have hl := sLen_le hk
  refine Spec_of [some (.ref (2000 + k))] (by decide) (Nat.le_of_ble_eq_true rfl) rfl ?_
  refine r_aload0 (pc := 0) dJ0_isEmpty_aae02_0 ?_
  refine r_strv (pc := 1) hk wS_v dJ0_isEmpty_aae02_1 ?_
  refine r_blen (pc := 4) hk hn dJ0_isEmpty_aae02_4 ?_
  refine n_if_ne (pc := 5) 12 (by decide) dJ0_isEmpty_aae02_5 (by omega) (fun h9 => ?_) (fun h9 => ?_)
  · refine n_iconst_0 (pc := 12) dJ0_isEmpty_aae02_12 ?_
    exact r_ireturn (pc := 13) false rfl rfl (by decide) dJ0_isEmpty_aae02_13 (Nat.zero_le _) (Nat.zero_le _) (Or.inl rfl) rfl (by rw [decide_eq_false h9]; rfl) rfl
  · refine n_iconst_1 (pc := 8) dJ0_isEmpty_aae02_8 ?_
    refine r_goto (pc := 9) 13 (by decide) dJ0_isEmpty_aae02_9 ?_
    exact r_ireturn (pc := 13) false rfl rfl (by decide) dJ0_isEmpty_aae02_13 (Nat.zero_le _) (Nat.zero_le _) (Or.inl rfl) rfl (by rw [decide_eq_true h9]; rfl) rfl
theorem s_charAt {k i : Nat} (hk : k < 10) (hi : i < sLen.getD k 0) : Spec mJ0_charAt_5068e 4 0 0 [.ref (2000 + k), .int (nI i)] M (some (.int (nI (chS k i)))) M := by
  obtain ⟨e1, e2⟩ := chS_eq hk hi
  refine Spec_of [some (.ref (2000 + k)), some (.int (nI i))] (by decide) (Nat.le_of_ble_eq_true rfl) rfl ?_
  refine r_aload0 (pc := 0) dJ0_charAt_5068e_0 ?_
  refine r_callT0i (pc := 1) lkT_J0_492 dJ0_charAt_5068e_1 hk (s_isLatin1 hk) (by decide) (Nat.le_of_ble_eq_true rfl) ⟨Nat.zero_le _, Nat.zero_le _⟩ ?_
  refine b_if_eq (b := true) (pc := 4) 16 (by decide) dJ0_charAt_5068e_4 (fun h9 => by cases h9) (fun _ => ?_)
  refine r_aload0 (pc := 7) dJ0_charAt_5068e_7 ?_
  refine r_strv (pc := 8) hk wS_v dJ0_charAt_5068e_8 ?_
  refine r_iload1 (pc := 11) dJ0_charAt_5068e_11 ?_
  refine r_callS2i (pc := 12) lk_J0_495 dJ0_charAt_5068e_12 (s_L1c hk hi) (by decide) (Nat.le_of_ble_eq_true rfl) ⟨Nat.zero_le _, Nat.zero_le _⟩ ?_
  exact r_ireturn (pc := 15) false rfl rfl (narC (by omega)) dJ0_charAt_5068e_15 (Nat.zero_le _) (Nat.zero_le _) (Or.inl rfl) rfl rfl rfl
end JSTR
/-- the kinds of a string constant: its signs but the first -/
def ksS (k : Nat) : List Nat := ([[110, 115], [120, 89, 121, 100, 100], [100, 100, 100, 100], [75, 107], [75, 107, 75, 107], [120, 89, 121], [75, 107], [], [67, 99], []] : List (List Nat)).getD k []
def kkC (c : Nat) : Nat := if c = 112 then 1 else if c = 102 then 2 else if c = 116 then 3 else if c = 115 then 4 else if c = 98 then 5 else if c = 104 then 6 else if c = 108 then 7 else if c = 105 then 8 else 9
theorem ksS_len {k : Nat} (hk : k < 9) : sLen.getD k 0 = (ksS k).length + 1 := by
  have h : ∀ k, k < 9 → sLen.getD k 0 = (ksS k).length + 1 := by decide
  exact h k hk
def okC (c : Nat) : Bool := c == 67 || c == 75 || c == 89 || c == 99 || c == 107 || c == 110 || c == 115 || c == 120 || c == 121 || c == 100
theorem ksS_ch {k i : Nat} (hk : k < 9) (hi : i < (ksS k).length) : (ksS k).drop i = chS k (i + 1) :: (ksS k).drop (i + 1) ∧ okC (chS k (i + 1)) = true := by
  have h : ∀ k, k < 9 → ∀ i, i < (ksS k).length → (ksS k).drop i = chS k (i + 1) :: (ksS k).drop (i + 1) ∧ okC (chS k (i + 1)) = true := by decide
  exact h k hk i hi
theorem kkC_cases (c : Nat) : (cmK c = some (ksS (kkC c)) ∧ 1 ≤ kkC c ∧ kkC c < 9) ∨ (cmK c = none ∧ kkC c = 9) := by
  by_cases h1 : c = 112
  · subst h1; exact Or.inl (by decide)
  by_cases h2 : c = 102
  · subst h2; exact Or.inl (by decide)
  by_cases h3 : c = 116
  · subst h3; exact Or.inl (by decide)
  by_cases h4 : c = 115
  · subst h4; exact Or.inl (by decide)
  by_cases h5 : c = 98
  · subst h5; exact Or.inl (by decide)
  by_cases h6 : c = 104
  · subst h6; exact Or.inl (by decide)
  by_cases h7 : c = 108
  · subst h7; exact Or.inl (by decide)
  by_cases h8 : c = 105
  · subst h8; exact Or.inl (by decide)
  refine Or.inr ⟨?_, ?_⟩
  · unfold cmK
    rw [if_neg h1, if_neg h2, if_neg h3, if_neg h4, if_neg h5, if_neg h6, if_neg h7, if_neg h8]
  · unfold kkC
    rw [if_neg h1, if_neg h2, if_neg h3, if_neg h4, if_neg h5, if_neg h6, if_neg h7, if_neg h8]
section TEXTS
variable {M : Mem} {t n : Nat} {f : Nat → Nat}
set_option maxRecDepth 20000 in
theorem s_formOf {c : Nat} (hc : c < 65536) : Spec mX6_formOf 1 0 0 [.int (nI c)] M (some (.ref (2000 + kkC c))) M := by
  refine Spec_of [some (.int (nI c))] (by decide) (Nat.le_of_ble_eq_true rfl) rfl ?_
  have dflt : kkC c = 9 →
    G mX6_formOf 1 (.inl false) 0 0 (dT (some (.ref (2000 + kkC c))) M) none 0 0 116 [some (.int (nI c))] [] M
    := by
    intro e
    refine r_ldcS (pc := 116) 9 rfl dX6_formOf_116 ?_
    exact r_areturn (pc := 118) false rfl rfl (Or.inl ⟨_, rfl⟩) dX6_formOf_118 (Nat.zero_le _) (Nat.zero_le _) (Or.inl rfl) rfl (by rw [e]) rfl
  by_cases h1 : c = 112
  · subst h1
    refine r_iload0 (pc := 0) dX6_formOf_0 ?_
    refine r_tableIn (pc := 1) 92 (by decide) (by decide) rfl (by decide) dX6_formOf_1 ?_
    refine r_ldcS (pc := 92) 1 rfl dX6_formOf_92 ?_
    exact r_areturn (pc := 94) false rfl rfl (Or.inl ⟨_, rfl⟩) dX6_formOf_94 (Nat.zero_le _) (Nat.zero_le _) (Or.inl rfl) rfl rfl rfl
  by_cases h2 : c = 102
  · subst h2
    refine r_iload0 (pc := 0) dX6_formOf_0 ?_
    refine r_tableIn (pc := 1) 95 (by decide) (by decide) rfl (by decide) dX6_formOf_1 ?_
    refine r_ldcS (pc := 95) 2 rfl dX6_formOf_95 ?_
    exact r_areturn (pc := 97) false rfl rfl (Or.inl ⟨_, rfl⟩) dX6_formOf_97 (Nat.zero_le _) (Nat.zero_le _) (Or.inl rfl) rfl rfl rfl
  by_cases h3 : c = 116
  · subst h3
    refine r_iload0 (pc := 0) dX6_formOf_0 ?_
    refine r_tableIn (pc := 1) 98 (by decide) (by decide) rfl (by decide) dX6_formOf_1 ?_
    refine r_ldcS (pc := 98) 3 rfl dX6_formOf_98 ?_
    exact r_areturn (pc := 100) false rfl rfl (Or.inl ⟨_, rfl⟩) dX6_formOf_100 (Nat.zero_le _) (Nat.zero_le _) (Or.inl rfl) rfl rfl rfl
  by_cases h4 : c = 115
  · subst h4
    refine r_iload0 (pc := 0) dX6_formOf_0 ?_
    refine r_tableIn (pc := 1) 101 (by decide) (by decide) rfl (by decide) dX6_formOf_1 ?_
    refine r_ldcS (pc := 101) 4 rfl dX6_formOf_101 ?_
    exact r_areturn (pc := 103) false rfl rfl (Or.inl ⟨_, rfl⟩) dX6_formOf_103 (Nat.zero_le _) (Nat.zero_le _) (Or.inl rfl) rfl rfl rfl
  by_cases h5 : c = 98
  · subst h5
    refine r_iload0 (pc := 0) dX6_formOf_0 ?_
    refine r_tableIn (pc := 1) 104 (by decide) (by decide) rfl (by decide) dX6_formOf_1 ?_
    refine r_ldcS (pc := 104) 5 rfl dX6_formOf_104 ?_
    exact r_areturn (pc := 106) false rfl rfl (Or.inl ⟨_, rfl⟩) dX6_formOf_106 (Nat.zero_le _) (Nat.zero_le _) (Or.inl rfl) rfl rfl rfl
  by_cases h6 : c = 104
  · subst h6
    refine r_iload0 (pc := 0) dX6_formOf_0 ?_
    refine r_tableIn (pc := 1) 107 (by decide) (by decide) rfl (by decide) dX6_formOf_1 ?_
    refine r_ldcS (pc := 107) 6 rfl dX6_formOf_107 ?_
    exact r_areturn (pc := 109) false rfl rfl (Or.inl ⟨_, rfl⟩) dX6_formOf_109 (Nat.zero_le _) (Nat.zero_le _) (Or.inl rfl) rfl rfl rfl
  by_cases h7 : c = 108
  · subst h7
    refine r_iload0 (pc := 0) dX6_formOf_0 ?_
    refine r_tableIn (pc := 1) 110 (by decide) (by decide) rfl (by decide) dX6_formOf_1 ?_
    refine r_ldcS (pc := 110) 7 rfl dX6_formOf_110 ?_
    exact r_areturn (pc := 112) false rfl rfl (Or.inl ⟨_, rfl⟩) dX6_formOf_112 (Nat.zero_le _) (Nat.zero_le _) (Or.inl rfl) rfl rfl rfl
  by_cases h8 : c = 105
  · subst h8
    refine r_iload0 (pc := 0) dX6_formOf_0 ?_
    refine r_tableIn (pc := 1) 113 (by decide) (by decide) rfl (by decide) dX6_formOf_1 ?_
    refine r_ldcS (pc := 113) 8 rfl dX6_formOf_113 ?_
    exact r_areturn (pc := 115) false rfl rfl (Or.inl ⟨_, rfl⟩) dX6_formOf_115 (Nat.zero_le _) (Nat.zero_le _) (Or.inl rfl) rfl rfl rfl
  have e9 : kkC c = 9 := by
    unfold kkC
    rw [if_neg h1, if_neg h2, if_neg h3, if_neg h4, if_neg h5, if_neg h6, if_neg h7, if_neg h8]
  have fin := dflt e9
  refine r_iload0 (pc := 0) dX6_formOf_0 ?_
  have cc : c < 98 ∨ 116 < c ∨ c = 99 ∨ c = 100 ∨ c = 101 ∨ c = 103 ∨ c = 106 ∨ c = 107 ∨ c = 109 ∨ c = 110 ∨ c = 111 ∨ c = 113 ∨ c = 114 := by omega
  rcases cc with e | e | e | e | e | e | e | e | e | e | e | e | e
  · exact r_tableOut (pc := 1) 116 (Or.inl (by rw [nI_toInt (by omega)]; omega)) (by decide) dX6_formOf_1 fin
  · exact r_tableOut (pc := 1) 116 (Or.inr (by rw [nI_toInt (by omega)]; omega)) (by decide) dX6_formOf_1 fin
  · subst e; exact r_tableIn (pc := 1) 116 (by decide) (by decide) rfl (by decide) dX6_formOf_1 fin
  · subst e; exact r_tableIn (pc := 1) 116 (by decide) (by decide) rfl (by decide) dX6_formOf_1 fin
  · subst e; exact r_tableIn (pc := 1) 116 (by decide) (by decide) rfl (by decide) dX6_formOf_1 fin
  · subst e; exact r_tableIn (pc := 1) 116 (by decide) (by decide) rfl (by decide) dX6_formOf_1 fin
  · subst e; exact r_tableIn (pc := 1) 116 (by decide) (by decide) rfl (by decide) dX6_formOf_1 fin
  · subst e; exact r_tableIn (pc := 1) 116 (by decide) (by decide) rfl (by decide) dX6_formOf_1 fin
  · subst e; exact r_tableIn (pc := 1) 116 (by decide) (by decide) rfl (by decide) dX6_formOf_1 fin
  · subst e; exact r_tableIn (pc := 1) 116 (by decide) (by decide) rfl (by decide) dX6_formOf_1 fin
  · subst e; exact r_tableIn (pc := 1) 116 (by decide) (by decide) rfl (by decide) dX6_formOf_1 fin
  · subst e; exact r_tableIn (pc := 1) 116 (by decide) (by decide) rfl (by decide) dX6_formOf_1 fin
  · subst e; exact r_tableIn (pc := 1) 116 (by decide) (by decide) rfl (by decide) dX6_formOf_1 fin
theorem dg_pos {n : Nat} {f : Nat → Nat} {p : Nat} (h : 0 ≤ dgT n f p) : iI (dgT n f p) = nI (dg n f p) := by
  rw [iI_nat]; unfold dg; rw [Int.toNat_of_nonneg h]
set_option maxRecDepth 20000 in
theorem s_firstWrong (h : TXT M t n f) {k p : Nat} (hk : k < 9) (hp : p < 1000) (h0 : 0 ≤ dgT n f p) : Spec mX6_firstWrong 5 0 0 [.ref t, .ref (2000 + k), .int (nI p)] M (some (.int (oI (fw n f (ksS k) (p + 1))))) M := by
  have hl := sLen_le (show k < 10 by omega)
  have hlen := ksS_len hk
  have h00 := h
  obtain ⟨h1, h2, g, h3, h4, h5⟩ := h00
  have hb1 : ∀ i, -1000 ≤ dgT n f i ∧ dgT n f i ≤ 100000 := by
    intro i
    unfold dgT chT
    split
    · rename_i hi
      have := h2 i hi
      omega
    · omega
  have hk10 : k < 10 := by omega
  refine Spec_of [some (.ref t), some (.ref (2000 + k)), some (.int (nI p)), none] (by decide) (Nat.le_of_ble_eq_true rfl) rfl ?_
  refine n_iconst_1 (pc := 0) dX6_firstWrong_0 ?_
  refine r_istore3 (pc := 1) dX6_firstWrong_1 rfl ?_
  refine up_to (N := (ksS k).length) (k := 0) (fun i => 0 ≤ dgT n f (p + i) → fw n f (ksS k) (p + 1) = fw n f ((ksS k).drop i) (p + 1 + i) →
    G mX6_firstWrong 5 (.inl false) 0 0 (dT (some (.int (oI (fw n f (ksS k) (p + 1))))) M) none 0 0 2 [some (.ref t), some (.ref (2000 + k)), some (.int (nI p)), some (.int (nI (i + 1)))] [] M
    ) (fun hd0 he => ?_) (fun i hi ih hd0 he => ?_) (Nat.zero_le _) h0 rfl
  · rw [List.drop_length] at he
    refine r_iload3 (pc := 2) dX6_firstWrong_2 ?_
    refine r_aload1 (pc := 3) dX6_firstWrong_3 ?_
    refine r_callT0i (pc := 4) lkT_X6_42 dX6_firstWrong_4 hk10 (s_strLen hk10 hlen) (by decide) (Nat.le_of_ble_eq_true rfl) ⟨Nat.zero_le _, Nat.zero_le _⟩ ?_
    refine n_icmp_ge (pc := 7) 47 (by decide) dX6_firstWrong_7 (by omega) (by omega) (fun hc7 => ?_) (fun hc7 => absurd hc7 (by omega))
    refine r_iconst_m1 (pc := 47) dX6_firstWrong_47 ?_
    exact r_ireturn (pc := 48) false rfl rfl rfl dX6_firstWrong_48 (Nat.zero_le _) (Nat.zero_le _) (Or.inl rfl) rfl (by rw [he]; rfl) rfl
  · obtain ⟨ed, e2⟩ := ksS_ch hk hi
    rw [ed] at he
    have he2 : fw n f (ksS k) (p + 1) = if suZ (chS k (i + 1)) (dgT n f (p + 1 + i)) (dg n f (p + 1 + i - 1)) then fw n f ((ksS k).drop (i + 1)) (p + 1 + i + 1) else some (p + 1 + i) := he
    have ea : p + 1 + i = p + (i + 1) := by omega
    rw [show p + 1 + i - 1 = p + i by omega] at he2
    rw [ea] at he2
    have hok : chS k (i + 1) = 67 ∨ chS k (i + 1) = 75 ∨ chS k (i + 1) = 89 ∨ chS k (i + 1) = 99 ∨ chS k (i + 1) = 107 ∨ chS k (i + 1) = 110 ∨ chS k (i + 1) = 115 ∨ chS k (i + 1) = 120 ∨ chS k (i + 1) = 121 ∨ chS k (i + 1) = 100 := by
      unfold okC at e2
      simpa [or_assoc] using e2
    have hdb := hb1 (p + i)
    have hdv : dg n f (p + i) < 2147483648 := by unfold dg; omega
    refine r_iload3 (pc := 2) dX6_firstWrong_2 ?_
    refine r_aload1 (pc := 3) dX6_firstWrong_3 ?_
    refine r_callT0i (pc := 4) lkT_X6_42 dX6_firstWrong_4 hk10 (s_strLen hk10 hlen) (by decide) (Nat.le_of_ble_eq_true rfl) ⟨Nat.zero_le _, Nat.zero_le _⟩ ?_
    refine n_icmp_ge (pc := 7) 47 (by decide) dX6_firstWrong_7 (by omega) (by omega) (fun hc7 => absurd hc7 (by omega)) (fun hc7 => ?_)
    refine r_aload1 (pc := 10) dX6_firstWrong_10 ?_
    refine r_iload3 (pc := 11) dX6_firstWrong_11 ?_
    refine r_callT1i (pc := 12) lkT_X6_45 dX6_firstWrong_12 hk10 (s_charAt hk10 (by omega)) (by decide) (Nat.le_of_ble_eq_true rfl) ⟨Nat.zero_le _, Nat.zero_le _⟩ ?_
    refine r_aload0 (pc := 15) dX6_firstWrong_15 ?_
    refine r_iload2 (pc := 16) dX6_firstWrong_16 ?_
    refine r_iload3 (pc := 17) dX6_firstWrong_17 ?_
    first | refine n_iadd (pc := 18) dX6_firstWrong_18 ?_ | refine z_iadd (pc := 18) dX6_firstWrong_18 ?_ | refine r_iadd (pc := 18) dX6_firstWrong_18 ?_
    refine r_callV1i (pc := 19) lk_X6_23 dX6_firstWrong_19 h3 (s_digitAt h (by omega)) (by decide) (Nat.le_of_ble_eq_true rfl) ⟨Nat.zero_le _, Nat.zero_le _⟩ ?_
    refine r_aload0 (pc := 22) dX6_firstWrong_22 ?_
    refine r_iload2 (pc := 23) dX6_firstWrong_23 ?_
    refine r_iload3 (pc := 24) dX6_firstWrong_24 ?_
    first | refine n_iadd (pc := 25) dX6_firstWrong_25 ?_ | refine z_iadd (pc := 25) dX6_firstWrong_25 ?_ | refine r_iadd (pc := 25) dX6_firstWrong_25 ?_
    refine n_iconst_1 (pc := 26) dX6_firstWrong_26 ?_
    refine n_isub (pc := 27) dX6_firstWrong_27 (by omega) ?_
    rw [show p + (i + 1) - 1 = p + i by omega]
    refine r_callV1i (pc := 28) lk_X6_23 dX6_firstWrong_28 h3 (s_digitAt h (by omega)) (by decide) (Nat.le_of_ble_eq_true rfl) ⟨Nat.zero_le _, Nat.zero_le _⟩ ?_
    rw [dg_pos hd0]
    refine r_callS3i (pc := 31) lk_X6_49 dX6_firstWrong_31 (s_suits hok hdv (hb1 _).1 (hb1 _).2) (by decide) (Nat.le_of_ble_eq_true rfl) ⟨Nat.zero_le _, Nat.zero_le _⟩ ?_
    refine b_if_ne (pc := 34) 41 (by decide) dX6_firstWrong_34 (fun h9 => ?_) (fun h9 => ?_)
    · rw [if_pos h9] at he2
      refine n_iinc3 (pc := 41) dX6_firstWrong_41 rfl ?_
      refine r_goto (pc := 44) 2 (by decide) dX6_firstWrong_44 ?_
      exact ih ((suZ_dig h9).1) (by rw [he2, show p + 1 + (i + 1) = p + (i + 1) + 1 by omega])
    · rw [if_neg (by rw [h9]; decide)] at he2
      refine r_iload2 (pc := 37) dX6_firstWrong_37 ?_
      refine r_iload3 (pc := 38) dX6_firstWrong_38 ?_
      first | refine n_iadd (pc := 39) dX6_firstWrong_39 ?_ | refine z_iadd (pc := 39) dX6_firstWrong_39 ?_ | refine r_iadd (pc := 39) dX6_firstWrong_39 ?_
      exact r_ireturn (pc := 40) false rfl rfl rfl dX6_firstWrong_40 (Nat.zero_le _) (Nat.zero_le _) (Or.inl rfl) rfl (by rw [he2]; rfl) rfl
set_option maxRecDepth 20000 in
theorem s_firstError (h : TXT M t n f) : Spec mX6_firstError 6 0 0 [.ref t] M (some (.int (oI (feZ n f)))) M := by
  have h00 := h
  obtain ⟨h1, h2, g, h3, h4, h5⟩ := h00
  refine Spec_of [some (.ref t), none, none, none, none] (by decide) (Nat.le_of_ble_eq_true rfl) rfl ?_
  have hcb : -1000 ≤ chT n f 0 ∧ chT n f 0 ≤ 100000 := by
    unfold chT
    split
    · rename_i hi
      have := h2 0 hi
      omega
    · omega
  refine r_aload0 (pc := 0) dX6_firstError_0 ?_
  refine n_iconst_0 (pc := 1) dX6_firstError_1 ?_
  refine r_callV1i (pc := 2) lk_X6_19 dX6_firstError_2 h3 (s_signAt h (by omega)) (by decide) (Nat.le_of_ble_eq_true rfl) ⟨Nat.zero_le _, Nat.zero_le _⟩ ?_
  rw [show chT n f 0 = chT n f 0 from rfl]
  refine n_bipush (pc := 5) 68 (by decide) dX6_firstError_5 ?_
  rw [show nI 68 = iI 68 from iI_nat 68]
  refine z_icmp_eq (pc := 7) 12 (by decide) dX6_firstError_7 (by omega) (by omega) (by omega) (by omega) (fun h6 => ?_) (fun h6 => ?_)
  · have efe : feZ n f = match fw n f [110, 115] 1 with
      | some w => some w
      | none => feL n f 120 3 := if_pos h6
    have hd0 : 0 ≤ dgT n f 0 := by unfold dgT; omega
    refine r_aload0 (pc := 12) dX6_firstError_12 ?_
    refine r_ldcS (pc := 13) 0 rfl dX6_firstError_13 ?_
    refine n_iconst_0 (pc := 15) dX6_firstError_15 ?_
    refine r_callV2i (pc := 16) lk_X6_28 dX6_firstError_16 h3 (s_firstWrong h (k := 0) (by omega) (by omega) hd0) (by decide) (Nat.le_of_ble_eq_true rfl) ⟨Nat.zero_le _, Nat.zero_le _⟩ ?_
    change G mX6_firstError 6 (.inl false) 0 0 (dT (some (.int (oI (feZ n f)))) M) none 0 0 19 [some (.ref t), none, none, none, none] [.int (oI (fw n f [110, 115] 1))] M
    have out : ∀ (v : Option Nat) (a2 a3 a4 : Option Value), v = feZ n f →
      G mX6_firstError 6 (.inl false) 0 0 (dT (some (.int (oI (feZ n f)))) M) none 0 0 87 [some (.ref t), some (.int (oI v)), a2, a3, a4] [] M
      := by
      intro v a2 a3 a4 e
      refine r_iload1 (pc := 87) dX6_firstError_87 ?_
      exact r_ireturn (pc := 88) false rfl rfl rfl dX6_firstError_88 (Nat.zero_le _) (Nat.zero_le _) (Or.inl rfl) rfl (by rw [e]) rfl
    refine r_istore1 (pc := 19) dX6_firstError_19 rfl ?_
    refine n_iconst_3 (pc := 20) dX6_firstError_20 ?_
    refine r_istore2 (pc := 21) dX6_firstError_21 rfl ?_
    refine n_iconst_0 (pc := 22) dX6_firstError_22 ?_
    refine r_istore3 (pc := 23) dX6_firstError_23 rfl ?_
    cases hw : fw n f [110, 115] 1 with
    | some w =>
      rw [hw] at efe
      have hwb := (fw_bound h1 hw).2.1
      have hw9 : w < 2147483648 := by simp at hwb; omega
      refine r_iload3 (pc := 24) dX6_firstError_24 ?_
      refine n_bipush (pc := 25) 120 (by decide) dX6_firstError_25 ?_
      refine n_icmp_ge (pc := 27) 87 (by decide) dX6_firstError_27 (by omega) (by omega) (fun hc27 => absurd hc27 (by omega)) (fun hc27 => ?_)
      refine r_iload1 (pc := 30) dX6_firstError_30 ?_
      refine r_iconst_m1 (pc := 31) dX6_firstError_31 ?_
      rw [oI_some]
      refine r_icmp_ne (pc := 32) 87 (by decide) dX6_firstError_32 (fun _ => ?_) (fun h9 => absurd h9 (nI_ne_m1 hw9))
      exact out (some w) _ _ _ efe.symm
    | none =>
      rw [hw] at efe
      have efe : feZ n f = feL n f 120 3 := efe
      rw [oI_none, ← oI_none]
      have lp : ∀ (fu i p : Nat) (v : Option Nat) (a4 : Option Value), i + fu = 120 → (v = none → feL n f fu p = feZ n f ∧ 3 ≤ p ∧ n ≤ p + fu) → (∀ w, v = some w → feZ n f = some w ∧ w < 2147483648) → p < 1000 →
        G mX6_firstError 6 (.inl false) 0 0 (dT (some (.int (oI (feZ n f)))) M) none 0 0 24 [some (.ref t), some (.int (oI v)), some (.int (nI p)), some (.int (nI i)), a4] [] M
        := by
        intro fu
        induction fu with
        | zero =>
          intro i p v a4 hi hv hs hp
          refine r_iload3 (pc := 24) dX6_firstError_24 ?_
          refine n_bipush (pc := 25) 120 (by decide) dX6_firstError_25 ?_
          refine n_icmp_ge (pc := 27) 87 (by decide) dX6_firstError_27 (by omega) (by omega) (fun hc27 => ?_) (fun hc27 => absurd hc27 (by omega))
          refine out v _ _ _ ?_
          cases v with
          | none => exact (hv rfl).1
          | some w => exact (hs w rfl).1.symm
        | succ fu ih =>
          intro i p v a4 hi hv hs hp
          refine r_iload3 (pc := 24) dX6_firstError_24 ?_
          refine n_bipush (pc := 25) 120 (by decide) dX6_firstError_25 ?_
          refine n_icmp_ge (pc := 27) 87 (by decide) dX6_firstError_27 (by omega) (by omega) (fun hc27 => absurd hc27 (by omega)) (fun hc27 => ?_)
          refine r_iload1 (pc := 30) dX6_firstError_30 ?_
          refine r_iconst_m1 (pc := 31) dX6_firstError_31 ?_
          cases v with
          | some w =>
            obtain ⟨s1, s2⟩ := hs w rfl
            rw [oI_some]
            refine r_icmp_ne (pc := 32) 87 (by decide) dX6_firstError_32 (fun _ => out (some w) _ _ _ s1.symm) (fun h9 => absurd h9 (nI_ne_m1 s2))
          | none =>
            obtain ⟨v1, v2, v3⟩ := hv rfl
            refine r_icmp_ne (pc := 32) 87 (by decide) dX6_firstError_32 (fun h9 => absurd rfl h9) (fun _ => ?_)
            refine r_iload2 (pc := 35) dX6_firstError_35 ?_
            refine r_aload0 (pc := 36) dX6_firstError_36 ?_
            refine r_getf (pc := 37) fl_X6_15 dX6_firstError_37 h3 rfl ?_
            refine n_icmp_ge (pc := 40) 87 (by decide) dX6_firstError_40 (by omega) (by omega) (fun h9 => ?_) (fun h9 => ?_)
            · refine out none _ _ _ ?_
              rw [← v1]; exact (feL_stop (by omega) _).symm
            · have hfp := h2 p h9
              have ech : chT n f p = (f p : Int) := if_pos h9
              refine r_aload0 (pc := 43) dX6_firstError_43 ?_
              refine r_iload2 (pc := 44) dX6_firstError_44 ?_
              refine r_callV1i (pc := 45) lk_X6_19 dX6_firstError_45 h3 (s_signAt h (by omega)) (by decide) (Nat.le_of_ble_eq_true rfl) ⟨Nat.zero_le _, Nat.zero_le _⟩ ?_
              rw [ech, ← iI_nat]
              refine r_callS1i (pc := 48) lk_X6_32 dX6_firstError_48 (s_formOf hfp) (by decide) (Nat.le_of_ble_eq_true rfl) ⟨Nat.zero_le _, Nat.zero_le _⟩ ?_
              refine r_astore4 (pc := 51) dX6_firstError_51 rfl ?_
              rcases kkC_cases (f p) with ⟨q1, q2, q3⟩ | ⟨q1, q2⟩
              · have hk10 : kkC (f p) < 10 := by omega
                have hkl := ksS_len q3
                have hl := sLen_le hk10
                have hcl := cmK_L q1
                have hd0 : 0 ≤ dgT n f p := by unfold dgT; omega
                refine r_aload4 (pc := 53) dX6_firstError_53 ?_
                refine r_callT0i (pc := 55) lkT_X6_36 dX6_firstError_55 hk10 (s_strEmpty hk10 hkl) (by decide) (Nat.le_of_ble_eq_true rfl) ⟨Nat.zero_le _, Nat.zero_le _⟩ ?_
                rw [decide_eq_false (show ¬ (ksS (kkC (f p))).length + 1 = 0 by omega)]
                refine b_if_eq (b := false) (pc := 58) 65 (by decide) dX6_firstError_58 (fun _ => ?_) (fun h8 => by cases h8)
                refine r_aload0 (pc := 65) dX6_firstError_65 ?_
                refine r_aload4 (pc := 66) dX6_firstError_66 ?_
                refine r_iload2 (pc := 68) dX6_firstError_68 ?_
                refine r_callV2i (pc := 69) lk_X6_28 dX6_firstError_69 h3 (s_firstWrong h q3 hp hd0) (by decide) (Nat.le_of_ble_eq_true rfl) ⟨Nat.zero_le _, Nat.zero_le _⟩ ?_
                refine r_istore1 (pc := 72) dX6_firstError_72 rfl ?_
                refine r_iload2 (pc := 73) dX6_firstError_73 ?_
                refine r_aload4 (pc := 74) dX6_firstError_74 ?_
                refine r_callT0i (pc := 76) lkT_X6_42 dX6_firstError_76 hk10 (s_strLen hk10 hkl) (by decide) (Nat.le_of_ble_eq_true rfl) ⟨Nat.zero_le _, Nat.zero_le _⟩ ?_
                first | refine n_iadd (pc := 79) dX6_firstError_79 ?_ | refine z_iadd (pc := 79) dX6_firstError_79 ?_ | refine r_iadd (pc := 79) dX6_firstError_79 ?_
                refine r_istore2 (pc := 80) dX6_firstError_80 rfl ?_
                refine n_iinc3 (pc := 81) dX6_firstError_81 rfl ?_
                refine r_goto (pc := 84) 24 (by decide) dX6_firstError_84 ?_
                rw [show p + ((ksS (kkC (f p))).length + 1) = p + 1 + (ksS (kkC (f p))).length by omega]
                refine ih (i + 1) _ _ _ (by omega) (fun e => ?_) (fun w e => ?_) (by omega)
                · rw [feL_go h9 q1 e] at v1
                  exact ⟨v1, by omega, by omega⟩
                · rw [feL_bad h9 q1 e] at v1
                  have := fw_bound h1 e
                  exact ⟨v1.symm, by omega⟩
              · have hk10 : kkC (f p) < 10 := by omega
                have hkl : sLen.getD (kkC (f p)) 0 = 0 := by rw [q2]; rfl
                rw [feL_no h9 q1] at v1
                refine r_aload4 (pc := 53) dX6_firstError_53 ?_
                refine r_callT0i (pc := 55) lkT_X6_36 dX6_firstError_55 hk10 (s_strEmpty hk10 hkl) (by decide) (Nat.le_of_ble_eq_true rfl) ⟨Nat.zero_le _, Nat.zero_le _⟩ ?_
                refine b_if_eq (b := true) (pc := 58) 65 (by decide) dX6_firstError_58 (fun h8 => by cases h8) (fun _ => ?_)
                refine r_iload2 (pc := 61) dX6_firstError_61 ?_
                refine r_goto (pc := 62) 72 (by decide) dX6_firstError_62 ?_
                refine r_istore1 (pc := 72) dX6_firstError_72 rfl ?_
                refine r_iload2 (pc := 73) dX6_firstError_73 ?_
                refine r_aload4 (pc := 74) dX6_firstError_74 ?_
                refine r_callT0i (pc := 76) lkT_X6_42 dX6_firstError_76 hk10 (s_strLen hk10 hkl) (by decide) (Nat.le_of_ble_eq_true rfl) ⟨Nat.zero_le _, Nat.zero_le _⟩ ?_
                first | refine n_iadd (pc := 79) dX6_firstError_79 ?_ | refine z_iadd (pc := 79) dX6_firstError_79 ?_ | refine r_iadd (pc := 79) dX6_firstError_79 ?_
                refine r_istore2 (pc := 80) dX6_firstError_80 rfl ?_
                refine n_iinc3 (pc := 81) dX6_firstError_81 rfl ?_
                refine r_goto (pc := 84) 24 (by decide) dX6_firstError_84 ?_
                exact ih (i + 1) _ (some p) _ (by omega) (fun e => by cases e) (fun w e => by cases e; exact ⟨v1.symm, by omega⟩) (by omega)
      exact lp 120 0 3 none none (by omega) (fun _ => ⟨efe.symm, by omega, by omega⟩) (fun w e => by cases e) (by omega)
  · have e : feZ n f = some 0 := if_neg h6
    refine n_iconst_0 (pc := 10) dX6_firstError_10 ?_
    exact r_ireturn (pc := 11) false rfl rfl rfl dX6_firstError_11 (Nat.zero_le _) (Nat.zero_le _) (Or.inl rfl) rfl (by rw [e]; rfl) rfl
end TEXTS

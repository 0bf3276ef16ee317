/-! the start: what the Statement gives, put together; the law's first steps -/
def gvC : List Cond := flatC (Jvm.Cond.and given_1 narrow_1)
def tmS (i : Nat) : Term := .string (strs.getD i ("", 0, "")).1 (strs.getD i ("", 0, "")).2.1
def vlS (i : Nat) : Term := .field (tmS i) "java/lang/String" "value" "[B"
def sWords : List Cond := (List.range 36).map (fun i => .exactly (tmS i) "java/lang/String") ++ (List.range 10).flatMap (fun i => [.eq (.field (tmS i) "java/lang/String" "coder" "B") (.int 0), .arrayOf (vlS i) .byte, .eq (.length (vlS i)) (.int (Int32.ofNat (sLen.getD i 0)))] ++ (List.range (sLen.getD i 0)).map (fun j => .eq (.elem (vlS i) (.int (Int32.ofNat j))) (.int ((sByt.getD i []).getD j 0))))
theorem sWords_in : ∀ w ∈ sWords, w ∈ gvC := by decide +kernel
theorem ncW_in : ∀ pr ∈ ncW, Cond.not (.castable pr.1 pr.2) ∈ gvC := by decide +kernel
theorem stW_in : ∀ w ∈ [Cond.eq (.static "java/lang/String" "COMPACT_STRINGS" "Z") (.int 1), .isRef (.static "jdk/internal/util/Preconditions" "SIOOBE_FORMATTER" "Ljava/util/function/BiFunction;"), .isRef (.static Bundle.tN "UNASSIGNED_STACK" Bundle.steD), .isRef (.static Bundle.tN "SUPPRESSED_SENTINEL" Bundle.listD)], w ∈ gvC := by decide +kernel
def rWords : List Cond := strs.map (fun q => .stringRef q.1 q.2.1 q.2.2)
theorem rWords_in : ∀ w ∈ rWords, w ∈ lw_tbl := by decide +kernel
theorem eWords_in : ∀ w ∈ excW ++ nests, w ∈ lw_tbl := by decide +kernel
theorem lWords_in : ∀ w ∈ [Cond.laysStatic "java/lang/String" "COMPACT_STRINGS" "Z", .laysStatic "jdk/internal/util/Preconditions" "SIOOBE_FORMATTER" "Ljava/util/function/BiFunction;", .laysStatic Bundle.tN "UNASSIGNED_STACK" Bundle.steD, .laysStatic Bundle.tN "SUPPRESSED_SENTINEL" Bundle.listD, .initialized "java/lang/String", .initialized "jdk/internal/util/Preconditions", .initialized Bundle.tN, .arrayOver (.object "PipPortrait$State"), .arrayClass .int, .arrayClass .boolean, .arrayClass .char], w ∈ lw_tbl := by decide +kernel
theorem ex_mem (i : Nat) (h : i < 36) : Cond.exactly (tmS i) "java/lang/String" ∈ sWords := List.mem_append_left _ (List.mem_map.mpr ⟨i, List.mem_range.mpr h, rfl⟩)
theorem tx_mem (i : Nat) (h : i < 10) : Cond.eq (.field (tmS i) "java/lang/String" "coder" "B") (.int 0) ∈ sWords ∧ Cond.arrayOf (vlS i) .byte ∈ sWords ∧ Cond.eq (.length (vlS i)) (.int (Int32.ofNat (sLen.getD i 0))) ∈ sWords ∧ ∀ j, j < sLen.getD i 0 → Cond.eq (.elem (vlS i) (.int (Int32.ofNat j))) (.int ((sByt.getD i []).getD j 0)) ∈ sWords := by
  have key : ∀ w, w ∈ ([.eq (.field (tmS i) "java/lang/String" "coder" "B") (.int 0), .arrayOf (vlS i) .byte, .eq (.length (vlS i)) (.int (Int32.ofNat (sLen.getD i 0)))] ++ (List.range (sLen.getD i 0)).map (fun j => .eq (.elem (vlS i) (.int (Int32.ofNat j))) (.int ((sByt.getD i []).getD j 0))) : List Cond) → w ∈ sWords := fun w hw =>
    List.mem_append_right _ (List.mem_flatMap.mpr ⟨i, List.mem_range.mpr h, hw⟩)
  exact ⟨key _ (by simp), key _ (by simp), key _ (by simp), fun j hj => key _ (List.mem_append_right _ (List.mem_map.mpr ⟨j, List.mem_range.mpr hj, rfl⟩))⟩
theorem sDist : ∀ i, i < 10 → ∀ j, j < 10 → sLen.getD i 0 = sLen.getD j 0 → (∀ n, n < sLen.getD i 0 → (sByt.getD i []).getD n 0 = (sByt.getD j []).getD n 0) → i = j := by decide +kernel
theorem OF_same {o n d : String} {v v' : Value} {t : Nat} {A : Nat → Prop} {U : State} {H : Heap} (h1 : va_OF o n d v t A U H) (h2 : va_OF o n d v' t A U H) : v = v' := by
  obtain ⟨cf, k, i, f, cell, a1, a2, a3, a4, a5, a6⟩ := h1
  obtain ⟨cf', k', i', f', cell', b1, b2, b3, b4, b5, b6⟩ := h2
  rw [a1] at b1
  cases b1
  rw [a3] at b3
  cases b3
  rw [a5] at b5
  exact Option.some.inj b5
theorem T_same {ty : FieldType} {t N N' : Nat} {f f' : Nat → Value} {A : Nat → Prop} {U : State} {H : Heap} (h1 : va_T ty t N f A U H) (h2 : va_T ty t N' f' A U H) (hN : N < 1000) (hN' : N' < 1000) : N = N' ∧ ∀ j, j < N → f j = f' j := by
  obtain ⟨cell, a1, a2, a3, a4, a5, a6, a7⟩ := h1
  obtain ⟨cell', b1, b2, b3, b4, b5, b6, b7⟩ := h2
  rw [a1] at b1
  cases b1
  have e : nI N = nI N' := a5.symm.trans b5
  have e2 := congrArg Int32.toInt e
  rw [nI_toInt (by omega), nI_toInt (by omega)] at e2
  have e3 : N = N' := by omega
  refine ⟨e3, fun j hj => ?_⟩
  have c1 := a6 j hj
  have c2 := b6 j (by omega)
  rw [c1] at c2
  exact Option.some.inj c2
theorem s_strs {args : Array Value} {s : State} {A : Nat → Prop} (hs : ∀ w ∈ gvC, w.before args s = true) (hA : ∀ a : Nat, a < s.heap.size → ¬ A a) : ∃ adK adV : Nat → Nat, (∀ i, i < 36 → (tmS i).eval args s none [] s = some (.ref (adK i))) ∧ vk_S 10 sLen sByt adK adV A s s.heap := by
  have hl : ∀ i, i < 10 → sLen.getD i 0 < 2 ^ 31 := by decide
  have h0 : ∀ i : Nat, ∃ q : Nat × Nat, (i < 36 → (tmS i).eval args s none [] s = some (.ref q.1)) ∧ (i < 10 → va_O "java/lang/String" q.1 A s s.heap ∧ va_OF "java/lang/String" "coder" "B" (.int 0) q.1 A s s.heap ∧ va_OF "java/lang/String" "value" "[B" (.ref q.2) q.1 A s s.heap ∧ va_T .byte q.2 (sLen.getD i 0) (fun j => .int ((sByt.getD i []).getD j 0)) A s s.heap) := by
    intro i
    by_cases hi : i < 36
    · obtain ⟨a, c, cA, kA, q1, q2, q3, q4, q5, q6, -⟩ := Cond.exactly_spec (args := args) (first := s) (o := none) (s := s) (idx := []) (t := tmS i) (cls := "java/lang/String") (hs _ (sWords_in _ (ex_mem i hi)))
      by_cases h10 : i < 10
      · obtain ⟨t1, t2, t3, t4⟩ := tx_mem i h10
        obtain ⟨t, ht, hT⟩ := va_Tof (f := fun j => .int ((sByt.getD i []).getD j 0)) (A := A) (hl i h10) (hs _ (sWords_in _ t2)) (va_eqt (hs _ (sWords_in _ t3))) (fun j hj => va_eqt (hs _ (sWords_in _ (t4 j hj)))) hA
        exact ⟨(a, t), fun _ => q1, fun _ => ⟨⟨cA, q3, q5, by rw [q6]; exact q2, hA a (Array.getElem?_eq_some_iff.mp q3).1⟩, vk_OFof q1 (va_eqt (hs _ (sWords_in _ t1))) hA, vk_OFof q1 ht hA, hT⟩⟩
      · exact ⟨(a, 0), fun _ => q1, fun h => absurd h h10⟩
    · exact ⟨(0, 0), fun h => absurd h hi, fun h => absurd h (by omega)⟩
  obtain ⟨ad, had⟩ := Classical.axiomOfChoice h0
  refine ⟨fun i => (ad i).1, fun i => (ad i).2, fun i hi => (had i).1 hi, fun i hi => (had i).2 hi, fun i j hi hj e => ?_⟩
  obtain ⟨-, -, a3, a4⟩ := (had i).2 hi
  obtain ⟨-, -, b3, b4⟩ := (had j).2 hj
  have e : (ad i).1 = (ad j).1 := e
  rw [← e] at b3
  have e2 := OF_same a3 b3
  have e2 : (ad i).2 = (ad j).2 := Value.ref.inj e2
  rw [← e2] at b4
  have l1 := sLen_le hi
  have l2 := sLen_le hj
  obtain ⟨e3, e4⟩ := T_same a4 b4 (by omega) (by omega)
  exact sDist i hi j hj e3 (fun n hn => Value.int.inj (e4 n hn))
theorem s_known {args : Array Value} {s : State} (hts : ∀ w ∈ lw_tbl, w.before args s = true) : ∃ (D : va_G) (ca : Nat → ClassId), va_K D vwCl (tysOf ca) s := by
  have hG : ∀ w ∈ tblG, w.before args s = true := fun w h => hts w (List.mem_filter.mp h).1
  have h0 : ∀ c : Nat, ∃ d : ClassId × (Nat → Nat), ∀ q, vwCl[c]? = some q → u_Kn s q.1 q.2.1 q.2.2 d.1 d.2 := by
    intro c
    match c with
    | 0 =>
      obtain ⟨cC, iS, h⟩ := u_known (C := RX0) (T := TX0) (N := 13) hG inGX0 (hG (.instantiable RX0 13) (tG 48 (by decide +kernel) (by decide +kernel)))
      exact ⟨(cC, iS), fun q hq => by cases hq; exact h⟩
    | 1 =>
      obtain ⟨cC, iS, h⟩ := u_known (C := RX2) (T := TX2) (N := 3) hG inGX2 (hG (.instantiable RX2 3) (tG 203 (by decide +kernel) (by decide +kernel)))
      exact ⟨(cC, iS), fun q hq => by cases hq; exact h⟩
    | 2 =>
      obtain ⟨cC, iS, h⟩ := u_known (C := RX3) (T := TX3) (N := 8) hG inGX3 (hG (.instantiable RX3 8) (tG 115 (by decide +kernel) (by decide +kernel)))
      exact ⟨(cC, iS), fun q hq => by cases hq; exact h⟩
    | 3 =>
      obtain ⟨cC, iS, h⟩ := u_known (C := RX4) (T := TX4) (N := 2) hG inGX4 (hG (.instantiable RX4 2) (tG 223 (by decide +kernel) (by decide +kernel)))
      exact ⟨(cC, iS), fun q hq => by cases hq; exact h⟩
    | 4 =>
      obtain ⟨cC, iS, h⟩ := u_known (C := RX5) (T := TX5) (N := 9) hG inGX5 (hG (.instantiable RX5 9) (tG 54 (by decide +kernel) (by decide +kernel)))
      exact ⟨(cC, iS), fun q hq => by cases hq; exact h⟩
    | 5 =>
      obtain ⟨cC, iS, h⟩ := u_known (C := RX6) (T := TX6) (N := 2) hG inGX6 (hG (.instantiable RX6 2) (tG 239 (by decide +kernel) (by decide +kernel)))
      exact ⟨(cC, iS), fun q hq => by cases hq; exact h⟩
    | 6 =>
      obtain ⟨cC, iS, h⟩ := u_known (C := RX7) (T := TX7) (N := 5) hG inGX7 (hG (.instantiable RX7 5) (tG 40 (by decide +kernel) (by decide +kernel)))
      exact ⟨(cC, iS), fun q hq => by cases hq; exact h⟩
    | n + 7 => exact ⟨(0, fun _ => 0), fun q hq => by simp [vwCl] at hq⟩
  obtain ⟨dd, hdd⟩ := Classical.axiomOfChoice h0
  have hL : ∀ w ∈ [Cond.arrayClass .int, .arrayClass .boolean, .arrayClass .char, .arrayOver (.object "PipPortrait$State")], w.before args s = true := fun w hw => hts w (lWords_in w (by simp only [List.mem_cons, List.not_mem_nil, or_false] at hw ⊢; rcases hw with h | h | h | h <;> subst h <;> simp))
  have prim : ∀ ty : FieldType, (Cond.arrayClass ty).before args s = true → ∃ cA, ArrOfT s cA ty ∧ s.vm.findClass ("[" ++ ty.toString) = some cA := by
    intro ty h
    obtain ⟨cA, kA, comp, h1, h2, h3⟩ := Cond.arrayClass_spec (args := args) (first := s) (o := none) (s := s) (idx := []) h
    exact ⟨cA, fun n z => ⟨fun k h => (by cases h), kA, h2, comp, h3⟩, h1⟩
  obtain ⟨c0, p0, r0⟩ := prim .int (hL _ (by simp))
  obtain ⟨c1, p1, r1⟩ := prim .boolean (hL _ (by simp))
  obtain ⟨c2, p2, r2⟩ := prim .char (hL _ (by simp))
  obtain ⟨comp, c4, kA, f1, f2, f3, f4, f5⟩ := Cond.arrayOver_spec (args := args) (first := s) (o := none) (s := s) (idx := []) (hL (.arrayOver (.object "PipPortrait$State")) (by simp))
  refine ⟨(fun c => (dd c).1, fun c => (dd c).2), (fun t => match t with | 0 => c0 | 1 => c1 | 2 => c2 | 3 => c0 | _ => c4), fun c q hq => hdd c q hq, fun k q hq => ?_⟩
  match k, hq with
  | 0, hq => cases hq; exact ⟨p0, r0⟩
  | 1, hq => cases hq; exact ⟨p1, r1⟩
  | 2, hq => cases hq; exact ⟨p2, r2⟩
  | 3, hq => cases hq; exact ⟨p0, r0⟩
  | 4, hq => cases hq; exact ⟨fun n z => ⟨fun k h => (by cases h), kA, f3, comp, f4⟩, kA, comp, f3, f4, f1, f5⟩
  | n + 5, hq => simp [tysOf] at hq
def adF (base b fm : Nat) (adK adV : Nat → Nat) (i : Nat) : Nat := if i < 500 then base + i else if i < 2000 then b else if i < 3000 then adK (i - 2000) else if i < 4000 then adV (i - 3000) else fm
theorem adF_K {base b fm : Nat} {adK adV : Nat → Nat} {k : Nat} (h : k < 1000) : adF base b fm adK adV (2000 + k) = adK k := by
  unfold adF
  rw [if_neg (by omega), if_neg (by omega), if_pos (by omega), Nat.add_sub_cancel_left]
theorem adF_V {base b fm : Nat} {adK adV : Nat → Nat} {k : Nat} (h : k < 1000) : adF base b fm adK adV (3000 + k) = adV k := by
  unfold adF
  rw [if_neg (by omega), if_neg (by omega), if_neg (by omega), if_pos (by omega), Nat.add_sub_cancel_left]
theorem s_env {args : Array Value} {s : State} {A : Nat → Prop} (base b : Nat) (hts : ∀ w ∈ lw_tbl, w.before args s = true) (hs : ∀ w ∈ gvC, w.before args s = true) (hA : ∀ a : Nat, a < s.heap.size → ¬ A a) : ∃ ad : Nat → Nat, (∀ i, i < 500 → ad i = base + i) ∧ ad 1000 = b ∧ pE ad A s s.heap := by
  obtain ⟨adK, adV, k1, k2⟩ := s_strs hs hA
  have hL : ∀ w ∈ [Cond.laysStatic "java/lang/String" "COMPACT_STRINGS" "Z", .laysStatic "jdk/internal/util/Preconditions" "SIOOBE_FORMATTER" "Ljava/util/function/BiFunction;", .laysStatic Bundle.tN "UNASSIGNED_STACK" Bundle.steD, .laysStatic Bundle.tN "SUPPRESSED_SENTINEL" Bundle.listD, .initialized "java/lang/String", .initialized "jdk/internal/util/Preconditions", .initialized Bundle.tN, .arrayOver (.object "PipPortrait$State")], w.before args s = true := fun w hw => hts w (lWords_in w (by simp only [List.mem_cons, List.not_mem_nil, or_false] at hw ⊢; rcases hw with h | h | h | h | h | h | h | h <;> subst h <;> simp))
  have hS : ∀ w ∈ [Cond.eq (.static "java/lang/String" "COMPACT_STRINGS" "Z") (.int 1), .isRef (.static "jdk/internal/util/Preconditions" "SIOOBE_FORMATTER" "Ljava/util/function/BiFunction;"), .isRef (.static Bundle.tN "UNASSIGNED_STACK" Bundle.steD), .isRef (.static Bundle.tN "SUPPRESSED_SENTINEL" Bundle.listD)], w.before args s = true := fun w hw => hs w (stW_in w hw)
  have zC : va_Z "java/lang/String" "COMPACT_STRINGS" "Z" (.int 1) A s s.heap := va_Zof (hL _ (by simp)) (hL _ (by simp)) (va_eqi (hS _ (by simp))) hA
  have zU : vx_Zq Bundle.tN "UNASSIGNED_STACK" Bundle.steD A s s.heap := vx_Zqof (hL _ (by simp)) (hL _ (by simp)) (hS _ (by simp)) hA
  have zN : vx_Zq Bundle.tN "SUPPRESSED_SENTINEL" Bundle.listD A s s.heap := vx_Zqof (hL _ (by simp)) (hL _ (by simp)) (hS _ (by simp)) hA
  have zF : va_Zq "jdk/internal/util/Preconditions" "SIOOBE_FORMATTER" "Ljava/util/function/BiFunction;" A s s.heap := va_Zqof (hL _ (by simp)) (hL _ (by simp)) (hS _ (by simp)) hA
  have hW : pW s := ⟨fun w hw => va_Nw.of (excW_ot w hw) (hts w (eWords_in w (List.mem_append_left _ hw))), fun pr hp => va_Nc.of (hs _ (ncW_in pr hp)), va_AO.of (hL (.arrayOver (.object "PipPortrait$State")) (by simp))⟩
  have hN : ∀ w ∈ nests, va_Nw w s := fun w hw => va_Nw.of (nests_ot w hw) (hts w (eWords_in w (List.mem_append_right _ hw)))
  have hR : ∀ (fm k : Nat) (q : String × Nat × String), strs[k]? = some q → vk_R q.1 q.2.1 q.2.2 (adF base b fm adK adV (2000 + k)) s := by
    intro fm k q hq
    have hk : k < 36 := (List.getElem?_eq_some_iff.mp hq).1
    rw [adF_K (by omega)]
    have e : strs.getD k ("", 0, "") = q := by rw [List.getD_eq_getElem?_getD, hq]; rfl
    have h1 := k1 k hk
    unfold tmS at h1
    rw [e] at h1
    exact vk_R.of (hts _ (rWords_in _ (List.mem_map.mpr ⟨q, List.mem_of_getElem? hq, rfl⟩))) h1
  have hV : ∀ fm : Nat, vk_S 10 sLen sByt (fun k => adF base b fm adK adV (2000 + k)) (fun k => adF base b fm adK adV (3000 + k)) A s s.heap := by
    intro fm
    refine ⟨fun i hi => ?_, fun i j hi hj e => ?_⟩
    · show va_O _ (adF base b fm adK adV (2000 + i)) A s s.heap ∧ va_OF _ _ _ _ (adF base b fm adK adV (2000 + i)) A s s.heap ∧ va_OF _ _ _ (.ref (adF base b fm adK adV (3000 + i))) (adF base b fm adK adV (2000 + i)) A s s.heap ∧ va_T _ (adF base b fm adK adV (3000 + i)) _ _ A s s.heap
      rw [adF_K (by omega), adF_V (by omega)]
      exact k2.1 i hi
    · have e : adF base b fm adK adV (2000 + i) = adF base b fm adK adV (2000 + j) := e
      rw [adF_K (by omega), adF_K (by omega)] at e
      exact k2.2 i j hi hj e
  have h5 : ∀ fm i : Nat, i < 500 → adF base b fm adK adV i = base + i := fun fm i hi => if_pos hi
  have h1 : ∀ fm : Nat, adF base b fm adK adV 1000 = b := fun fm => rfl
  rcases zF with zF | ⟨t, zF⟩
  · exact ⟨adF base b 0 adK adV, h5 0, h1 0, hR 0, hV 0, zU, ⟨zN, hW⟩, ⟨zC, .null, Or.inl rfl, zF⟩, hN⟩
  · exact ⟨adF base b t adK adV, h5 t, h1 t, hR t, hV t, zU, ⟨zN, hW⟩, ⟨zC, .ref 4000, Or.inr rfl, zF⟩, hN⟩
/-! a new portrait's cells are its world's; at 164 by the other names -/
theorem NEW_face {M : Mem} (h : NEW 0 M) : FACE M w00 := by
  obtain ⟨h0, ⟨S, h1, h1i⟩, ⟨S2, h2⟩, ⟨h3, h3s⟩, ⟨h4, h4s⟩, h5⟩ := h
  rw [Nat.zero_add] at h1 h2 h3 h4 h5
  refine ⟨h0, ⟨S, h1, h1i⟩, ⟨S2, h2⟩, ⟨0, h3, fun i hi => ?_⟩, ⟨h4, fun i hi => ?_⟩, h5⟩
  · obtain ⟨T, t1⟩ := h3s i hi
    rw [Nat.zero_add] at t1
    exact ⟨T, t1, fun j hj => absurd hj (Nat.not_lt_zero _)⟩
  · obtain ⟨T, t1⟩ := h4s i hi
    rw [Nat.zero_add] at t1
    exact ⟨T, t1, fun y hy => by cases hy⟩
theorem ren_at' {M : Mem} {i : Nat} {c : PCell} (h : M (i + 164) = some c) (hi : i < 164) : ren M i = some (rnC c) := by
  rw [ren_at, sg_lo hi, h]; rfl
theorem rf_sg {a : Nat} (h : a < 164) : Value.ref (sg (a + 164)) = Value.ref a := by rw [sg_mid (by omega) (by omega), Nat.add_sub_cancel]
theorem NEW_ren {M : Mem} (h : NEW 164 M) : NEW 0 (ren M) := by
  obtain ⟨h0, ⟨S, h1, h1i⟩, ⟨S2, h2⟩, ⟨h3, h3s⟩, ⟨h4, h4s⟩, h5⟩ := h
  have bs : ∀ b S, b + 22 ≤ 164 → bset M (164 + b) S = M → bset (ren M) (0 + b) S = ren M := by
    intro b S hb hS
    rw [Nat.zero_add]
    refine bset_self (fun j c hj => ?_)
    have hj9 : j < 22 := (List.getElem?_eq_some_iff.mp hj).1
    obtain ⟨c2, hc2⟩ : ∃ c2, (bcs (164 + b) S)[j]? = some c2 := ⟨_, List.getElem?_eq_getElem (by rw [bcs_len]; exact hj9)⟩
    have hM : M (164 + b + j) = some c2 := by rw [← hS]; exact bget hc2
    rw [show 164 + b + j = b + j + 164 by omega] at hM
    rw [ren_at' hM (by omega)]
    congr 1
    have hcs : (bcs (164 + b) S).map rnC = bcs b S := by
      have e : ∀ k, k < 22 → Value.ref (sg (164 + b + k)) = Value.ref (b + k) := fun k hk => by rw [show 164 + b + k = b + k + 164 by omega]; exact rf_sg (by omega)
      show [cO 0 [Value.ref (sg (164 + b + 1)), .int (S.1 0), .int (S.1 1), .int (S.1 2), .int (S.1 3), .ref (sg (164 + b + 8)), .ref (sg (164 + b + 9)), .ref (sg (164 + b + 10)), .ref (sg (164 + b + 11)), .ref (sg (164 + b + 12)), .ref (sg (164 + b + 13)), .ref (sg (164 + b + 20)), .ref (sg (164 + b + 21))],
        cO 4 [.int (S.1 4), .int (S.1 5), .int (S.1 6), .ref (sg (164 + b + 2)), .ref (sg (164 + b + 3)), .ref (sg (164 + b + 4)), .ref (sg (164 + b + 5)), .ref (sg (164 + b + 6)), .ref (sg (164 + b + 7))],
        cI 112 (S.2 2), cI 56 (S.2 3), cI 56 (S.2 4), cI 56 (S.2 5), cI 56 (S.2 6), cI 56 (S.2 7), cI 56 (S.2 8), cI 56 (S.2 9), cI 56 (S.2 10), cI 56 (S.2 11), cI 112 (S.2 12),
        cO 2 [.int (S.1 7), .int (S.1 8), .ref (sg (164 + b + 14)), .ref (sg (164 + b + 15)), .ref (sg (164 + b + 16)), .ref (sg (164 + b + 17)), .ref (sg (164 + b + 18)), .ref (sg (164 + b + 19))],
        cI 56 (S.2 14), cI 56 (S.2 15), cI 56 (S.2 16), cI 56 (S.2 17), cI 56 (S.2 18), cI 56 (S.2 19), cI 56 (S.2 20), cI 56 (S.2 21)] = bcs b S
      rw [e 1 (by decide), e 2 (by decide), e 3 (by decide), e 4 (by decide), e 5 (by decide), e 6 (by decide), e 7 (by decide), e 8 (by decide), e 9 (by decide), e 10 (by decide), e 11 (by decide), e 12 (by decide), e 13 (by decide), e 14 (by decide), e 15 (by decide), e 16 (by decide), e 17 (by decide), e 18 (by decide), e 19 (by decide), e 20 (by decide), e 21 (by decide)]
      rfl
    rw [← hcs, List.getElem?_map, hc2] at hj
    exact Option.some.inj hj
  have ss : ∀ a T, a + 7 ≤ 164 → sAt M (164 + a) T → sAt (ren M) (0 + a) T := by
    intro a T ha hs j c hj
    have hj9 : j < 7 := (List.getElem?_eq_some_iff.mp hj).1
    obtain ⟨c2, hc2⟩ : ∃ c2, (scs (164 + a) T)[j]? = some c2 := ⟨_, List.getElem?_eq_getElem (by rw [scs_len3]; exact hj9)⟩
    have hM := hs _ _ hc2
    rw [show 164 + a + j = 0 + a + j + 164 by omega] at hM
    rw [ren_at' hM (by omega)]
    congr 1
    have hcs : (scs (164 + a) T).map rnC = scs (0 + a) T := by
      have e : ∀ k, k < 7 → Value.ref (sg (164 + a + k)) = Value.ref (0 + a + k) := fun k hk => by rw [show 164 + a + k = 0 + a + k + 164 by omega]; exact rf_sg (by omega)
      show [cO 4 [.int (T.1 0), .int (T.1 1), .int (T.1 2), .ref (sg (164 + a + 1)), .ref (sg (164 + a + 2)), .ref (sg (164 + a + 3)), .ref (sg (164 + a + 4)), .ref (sg (164 + a + 5)), .ref (sg (164 + a + 6))], cI 112 (T.2 0), cI 56 (T.2 1), cI 56 (T.2 2), cI 56 (T.2 3), cI 56 (T.2 4), cI 56 (T.2 5)] = scs (0 + a) T
      rw [e 1 (by decide), e 2 (by decide), e 3 (by decide), e 4 (by decide), e 5 (by decide), e 6 (by decide)]
      rfl
    rw [← hcs, List.getElem?_map, hc2] at hj
    exact Option.some.inj hj
  refine ⟨?_, ⟨S, bs 1 S (by decide) h1, h1i⟩, ⟨S2, bs 23 S2 (by decide) h2⟩, ⟨?_, fun i hi => ?_⟩, ⟨?_, fun i hi => ?_⟩, ?_⟩
  · rw [ren_at' (i := 0) h0 (by decide)]; rfl
  · obtain ⟨m1, m2, m3, f, m4, m5⟩ := h3
    refine ⟨m1, m2, ?_, fun j => (f j).map sg, ?_, fun i hi => ?_⟩
    · rw [ren_at' (i := 0 + 45) m3 (by decide)]; rfl
    · rw [ren_at' (i := 0 + 45 + 1) m4 (by decide)]; rfl
    · show (f i).map sg = _
      rw [m5 i hi]
      show some (sg _) = some _
      rw [sg_mid (by omega) (by omega)]
      exact congrArg some (by omega)
  · obtain ⟨T, t1⟩ := h3s i hi
    rw [show 164 + 45 + 2 + 7 * i = 164 + (45 + 2 + 7 * i) by omega] at t1
    have t2 := ss _ T (by omega) t1
    rw [show 0 + (45 + 2 + 7 * i) = 0 + 45 + 2 + 7 * i by omega] at t2
    exact ⟨T, t2⟩
  · obtain ⟨f, g, s1, s2, s3, s4, s5⟩ := h4
    refine ⟨fun j => (f j).map sg, g, ?_, ?_, fun i hi => ?_, ?_, s5⟩
    · rw [ren_at' (i := 0 + 145) s1 (by decide)]; rfl
    · rw [ren_at' (i := 0 + 145 + 1) s2 (by decide)]; rfl
    · show (f i).map sg = _
      rw [s3 i hi]
      show some (sg _) = some _
      rw [sg_mid (by omega) (by omega)]
      exact congrArg some (by omega)
    · rw [ren_at' (i := 0 + 145 + 2) s4 (by decide)]; rfl
  · obtain ⟨T, t1⟩ := h4s i hi
    rw [show 164 + 145 + 3 + 7 * i = 164 + (145 + 3 + 7 * i) by omega] at t1
    have t2 := ss _ T (by omega) t1
    rw [show 0 + (145 + 3 + 7 * i) = 0 + 145 + 3 + 7 * i by omega] at t2
    exact ⟨T, t2⟩
  · obtain ⟨x1, x2, g, x3, x4, x5⟩ := h5
    refine ⟨x1, x2, g, ?_, ?_, x5⟩
    · rw [ren_at' (i := 0 + 162) x3 (by decide)]; rfl
    · rw [ren_at' (i := 0 + 162 + 1) x4 (by decide)]; rfl
theorem G_drop2 {q : MI} {d : Nat} {x : XM} {mc ms : Nat} {oc : TG} {cs ss pc : Nat} {lv : List (Option Value)} {st : List Value} {M : Mem} {k1 n : Nat} {L : Nat} {xs : Nat → Int32} (hxx : x = .inr (.inl (L, xs))) (hn : k1 + cs = n) (k : (∀ i, n ≤ i → M i = none) → G q d x mc ms oc none cs ss pc lv st M) : G q d x mc ms oc (some k1) cs ss pc lv st M := by
  intro p l e R s m args below meth c H locs Q D nx nz ad ca A ls C hd hP hS hal hl
  have e9 : nx = n := hal.2.1.trans hn
  refine G_drop hxx (k (fun i hi => ?_)) p l e R s m args below meth c H locs Q D nx nz ad ca A ls C hd hP hS hal hl
  cases hM : M i with
  | none => rfl
  | some c9 => have := hd i c9 hM; omega
set_option maxRecDepth 20000 in
theorem lw_first {L : Nat} {xs : Nat → Int32} (hL : L ≤ 260) : G mL_law 13 (.inr (.inl (L, xs))) 1142817 5673017 (fun _ _ => True) (some 0) 0 0 0 [some (.ref 1000), none, none, none, none, none, none, none] [] (fun _ => none) := by
  refine r_new (pc := 0) (ci := 6) (fs := df_X7) 0 (by decide) (by decide) rfl (tG 39 (by decide +kernel) (by decide +kernel)) (tG 40 (by decide +kernel) (by decide +kernel)) (tG 18 (by decide +kernel) (by decide +kernel)) dv_X7 (fun _ => rfl) dL_law_0 (by decide) (by decide) ?_
  refine r_dup (pc := 3) dL_law_3 rfl ?_
  refine r_callA0 (pc := 4) (k' := 1) (Or.inl lk_L_192) dL_law_4 (by decide) (by decide) (s_X7_init (M := mset (fun _ => none) 0 (cO 6 df_X7)) (a := 0) mset_same) (by decide) (Nat.le_of_ble_eq_true rfl) (by decide) (fun M1 h1 => ?_)
  obtain ⟨h1, -⟩ := h1
  refine r_astore1 (pc := 7) dL_law_7 rfl ?_
  refine r_new (pc := 8) (ci := 6) (fs := df_X7) 164 (by decide) (by decide) rfl (tG 39 (by decide +kernel) (by decide +kernel)) (tG 40 (by decide +kernel) (by decide +kernel)) (tG 18 (by decide +kernel) (by decide +kernel)) dv_X7 (fun _ => rfl) dL_law_8 (by decide) (by decide) ?_
  refine r_dup (pc := 11) dL_law_11 rfl ?_
  refine r_callA0 (pc := 12) (k' := 165) (Or.inl lk_L_192) dL_law_12 (by decide) (by decide) (s_X7_init (M := mset M1 164 (cO 6 df_X7)) (a := 164) mset_same) (by decide) (Nat.le_of_ble_eq_true rfl) (by decide) (fun M2 h2 => ?_)
  obtain ⟨h2, h3⟩ := h2
  refine r_astore2 (pc := 15) dL_law_15 rfl ?_
  refine G_drop2 (n := 328) rfl rfl (fun hN => ?_)
  have hT : TW M2 (W2 w00 w00) := ⟨(NEW_face h1).ext (fun i hi => (h3 i (by omega)).trans (mset_ne (by omega))), NEW_face (NEW_ren h2)⟩
  obtain ⟨X, hX0, hXe⟩ := and_pos (if 0 < L then xs 0 else nI (15519697 * (0 + 3) + 11701))
  have hXe : cellX L xs 0 = nI X := hXe
  have hL1 : L ≤ 1000 := by omega
  refine n_bipush (pc := 16) 8 (by decide) dL_law_16 ?_
  refine r_aload0 (pc := 18) dL_law_18 ?_
  refine n_iconst_0 (pc := 19) dL_law_19 ?_
  refine r_callC (pc := 20) rfl rfl rfl dL_law_20 (by omega) hL1 hXe (by decide) ⟨by decide, by decide⟩ (by decide) ?_
  refine n_bipush (pc := 23) 15 (by decide) dL_law_23 ?_
  refine n_irem (pc := 25) dL_law_25 (by omega) (by omega) (by omega) ?_
  first | refine n_iadd (pc := 26) dL_law_26 ?_ | refine z_iadd (pc := 26) dL_law_26 ?_ | refine r_iadd (pc := 26) dL_law_26 ?_
  refine r_istore3 (pc := 27) dL_law_27 rfl ?_
  refine n_iconst_1 (pc := 28) dL_law_28 ?_
  refine r_istore4 (pc := 29) dL_law_29 rfl ?_
  refine n_iconst_0 (pc := 31) dL_law_31 ?_
  refine r_istore5 (pc := 32) dL_law_32 rfl ?_
  refine G_widen rfl (show _ ≤ 328 + 1700 * 0 by decide) (show _ ≤ 17956 + 10300 * 0 by decide) ?_
  exact lw_loop (T := 8 + X % 15) (by omega) hL1 w00 M2 none none hT w00_ok hN
theorem whole_start {p : Program} {e : Env} {s : State} {m : MethodId} {below : List Frame} {meth : Method} {c : Code} (l : Launch) (hflags : l.flags = flags0) {b L : Nat} {xs : Nat → Int32} (hL : L ≤ 260) (C0 : lw_At p s m meth c b L xs) : W p l e room_1 s m #[Value.ref b] below meth c s.heap [] 0 0 (lw_Z below #[Value.ref b] s) (entryFrame m ([Value.ref b] : List Value).toArray 8) := by
  obtain ⟨hx, hb, hr, hml, hown, hts, hX, hbl, hlk, hgv⟩ := C0
  have hst : l.stackTraces = false := by
    unfold Launch.stackTraces
    rw [hflags]
    decide
  have hs : ∀ w ∈ gvC, w.before #[Value.ref b] s = true := flat_of_before _ hgv
  have hA : ∀ a : Nat, a < s.heap.size → ¬ s.heap.size ≤ a := fun a h => by omega
  obtain ⟨ad, a1, a2, hE⟩ := s_env (A := fun q : Nat => s.heap.size ≤ q) s.heap.size b hts hs hA
  obtain ⟨D, ca, hK⟩ := s_known hts
  have hG : ∀ w ∈ tblG, w.before #[Value.ref b] s = true := fun w h => hts w (List.mem_filter.mp h).1
  have hl := lvOK_entry ad [.ref 1000] (n := 8) (lv := [some (.ref 1000), none, none, none, none, none, none, none]) (by decide) rfl
  rw [show ([.ref 1000] : List Value).map (cvV ad) = [.ref b] by rw [← a2]; rfl] at hl
  rw [lg_entry_eq]
  exact lw_first (xs := xs) hL p l e room_1 s m #[Value.ref b] below meth c s.heap [] _ D 0 1142817 ad ca (fun q : Nat => s.heap.size ≤ q) _
    ⟨hx, hb, hml, ⟨hr, fun h => absurd h (by decide)⟩, hown, hG, hK, hE, fun a h => h, ⟨by decide, fun i j hi => absurd hi (Nat.not_lt_zero _)⟩, fun i hi => absurd hi (Nat.not_lt_zero _), hlk, hst, ⟨by decide, by decide, by decide, by decide⟩, rfl, rfl, by omega, b, a2, rfl, hX, hbl, fun a h => h⟩
    (fun i c h => by cases h) (fun k q hq => by cases hq) va_S.rf ⟨rfl, rfl, s.heap.size, a1, rfl⟩ hl

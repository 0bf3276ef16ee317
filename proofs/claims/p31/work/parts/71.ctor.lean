/-! rows of new cells, and the constructors -/
def lset (M : Mem) (b : Nat) (L : List PCell) : Mem := fun i => if b ≤ i ∧ i < b + L.length then L[i - b]? else M i
theorem lget {M : Mem} {b j : Nat} {L : List PCell} {c : PCell} (h : L[j]? = some c) : lset M b L (b + j) = some c := by
  have hj : j < L.length := (List.getElem?_eq_some_iff.mp h).1
  unfold lset
  rw [if_pos ⟨Nat.le_add_right _ _, Nat.add_lt_add_left hj _⟩, Nat.add_sub_cancel_left]
  exact h
theorem lget0 {M : Mem} {b : Nat} {L : List PCell} {c : PCell} (h : L[0]? = some c) : lset M b L b = some c := lget (j := 0) h
theorem lset_out {M : Mem} {b i : Nat} {L : List PCell} (h : i < b ∨ b + L.length ≤ i) : lset M b L i = M i := by
  unfold lset; rw [if_neg (by omega)]
theorem lself {M : Mem} {b : Nat} {c : PCell} (h : M b = some c) : M = lset M b [c] := by
  funext i
  by_cases e : i = b
  · subst e; rw [h]; exact (lget0 rfl).symm
  · rw [lset_out]
    show i < b ∨ b + 1 ≤ i
    omega
theorem lset_push {M : Mem} {b n : Nat} {L : List PCell} {c : PCell} (L' : List PCell) (hn : L.length = n) (h : L ++ [c] = L') : mset (lset M b L) (b + n) c = lset M b L' := by
  subst h hn
  funext i
  by_cases e : i = b + L.length
  · rw [e, mset_same, lget]
    rw [List.getElem?_append_right (Nat.le_refl _), Nat.sub_self]; rfl
  · rw [mset_ne e]
    by_cases h1 : b ≤ i ∧ i < b + L.length
    · obtain ⟨j, rfl⟩ : ∃ j, i = b + j := ⟨i - b, by omega⟩
      have hj : j < L.length := by omega
      rw [lget (List.getElem?_eq_getElem hj), lget]
      rw [List.getElem?_append_left hj, List.getElem?_eq_getElem hj]
    · rw [lset_out (by omega), lset_out (by rw [List.length_append]; show i < b ∨ b + (L.length + 1) ≤ i; omega)]
theorem lset_set {M : Mem} {b j : Nat} {L : List PCell} {c : PCell} (L' : List PCell) (hj : j < L.length) (h : L.set j c = L') : mset (lset M b L) (b + j) c = lset M b L' := by
  subst h
  funext i
  by_cases e : i = b + j
  · rw [e, mset_same, lget]
    rw [List.getElem?_set_self hj]
  · rw [mset_ne e]
    by_cases h1 : b ≤ i ∧ i < b + L.length
    · obtain ⟨k, rfl⟩ : ∃ k, i = b + k := ⟨i - b, by omega⟩
      have hk : k < L.length := by omega
      rw [lget (List.getElem?_eq_getElem hk), lget]
      rw [List.getElem?_set_ne (by omega), List.getElem?_eq_getElem hk]
    · rw [lset_out (by omega), lset_out (by rw [List.length_set]; omega)]
theorem lset_set0 {M : Mem} {b : Nat} {L : List PCell} {c : PCell} (L' : List PCell) (hj : 0 < L.length) (h : L.set 0 c = L') : mset (lset M b L) b c = lset M b L' := lset_set (j := 0) L' hj h
theorem lset_tail {M : Mem} {b j : Nat} {L L2 : List PCell} (L' : List PCell) (hj : L.length = j + 1) (h2 : 1 ≤ L2.length) (h : L.take j ++ L2 = L') : lset (lset M b L) (b + j) L2 = lset M b L' := by
  subst h
  have hl : (L.take j).length = j := by rw [List.length_take]; omega
  funext i
  by_cases h1 : b + j ≤ i ∧ i < b + j + L2.length
  · obtain ⟨k, rfl⟩ : ∃ k, i = b + j + k := ⟨i - (b + j), by omega⟩
    have hk : k < L2.length := by omega
    rw [lget (List.getElem?_eq_getElem hk), Nat.add_assoc b j k, lget]
    rw [List.getElem?_append_right (by omega), hl, Nat.add_sub_cancel_left, List.getElem?_eq_getElem hk]
  · rw [lset_out (by omega)]
    by_cases h3 : b ≤ i ∧ i < b + j
    · obtain ⟨k, rfl⟩ : ∃ k, i = b + k := ⟨i - b, by omega⟩
      have hk : k < L.length := by omega
      rw [lget (List.getElem?_eq_getElem hk), lget]
      rw [List.getElem?_append_left (by omega), List.getElem?_take_of_lt (by omega), List.getElem?_eq_getElem hk]
    · rw [lset_out (by omega), lset_out (by rw [List.length_append, hl]; omega)]
section CTORA
variable {q : MI} {d : Nat} {x : XM} {mc ms : Nat} {oc : TG} {k0 : Nat} {cs ss pc : Nat} {lv : List (Option Value)} {st : List Value} {M : Mem}
theorem r_callA0 {y : MI} {d' idx mc' ms' k' b : Nat} {P : Mem → Prop} (lk : LkI q.1.cls idx y 0 ∨ LkIN q.1.cls idx y 0) (h0 : dec q pc = .ok (.invokespecial idx, 3)) (hk : k0 + cs = k') (h5 : k' + mc' < 500) (hsp : SpecA y d' mc' ms' k' [.ref b] M (tP none P)) (g_d : d' + 1 ≤ d) (hW : (st.map fun v => v.category).sum ≤ 8) (hcs : cs + mc' ≤ mc ∧ ss + ms' ≤ ms) (k : ∀ M1 : Mem, P M1 → G q d x mc ms oc (some k0) (cs + mc') (ss + ms') (pc + 3) lv st M1) : G q d x mc ms oc (some k0) cs ss pc lv (.ref b :: st) M :=
  G_callA (as := []) lk h0 hk h5 hsp g_d rfl hW hcs (fun r M1 h => by obtain ⟨h1, h2⟩ := h; cases h1; exact k M1 h2)
end CTORA
abbrev df_X0 : List Value := [.null, .int 0, .int 0, .int 0, .int 0, .null, .null, .null, .null, .null, .null, .null, .null]
theorem dv_X0 : ∀ j, j < 13 → (parseFieldDescriptor (TX0 j).2.2.1).map defaultValue = some (vp_V df_X0 j) := by decide +kernel
abbrev df_X2 : List Value := [.null, .int 0, .int 0]
theorem dv_X2 : ∀ j, j < 3 → (parseFieldDescriptor (TX2 j).2.2.1).map defaultValue = some (vp_V df_X2 j) := by decide +kernel
abbrev df_X3 : List Value := [.int 0, .int 0, .null, .null, .null, .null, .null, .null]
theorem dv_X3 : ∀ j, j < 8 → (parseFieldDescriptor (TX3 j).2.2.1).map defaultValue = some (vp_V df_X3 j) := by decide +kernel
abbrev df_X4 : List Value := [.null, .null]
theorem dv_X4 : ∀ j, j < 2 → (parseFieldDescriptor (TX4 j).2.2.1).map defaultValue = some (vp_V df_X4 j) := by decide +kernel
abbrev df_X5 : List Value := [.int 0, .int 0, .int 0, .null, .null, .null, .null, .null, .null]
theorem dv_X5 : ∀ j, j < 9 → (parseFieldDescriptor (TX5 j).2.2.1).map defaultValue = some (vp_V df_X5 j) := by decide +kernel
abbrev df_X6 : List Value := [.null, .int 0]
theorem dv_X6 : ∀ j, j < 2 → (parseFieldDescriptor (TX6 j).2.2.1).map defaultValue = some (vp_V df_X6 j) := by decide +kernel
abbrev df_X7 : List Value := [.null, .null, .null, .null, .null]
theorem dv_X7 : ∀ j, j < 5 → (parseFieldDescriptor (TX7 j).2.2.1).map defaultValue = some (vp_V df_X7 j) := by decide +kernel
def S00 : SS := (fun _ => 0, fun _ _ => 0)
def B00 : BS := (fun _ => 0, fun _ _ => 0)
def qcs (a : Nat) : List PCell := [cO 2 [.int 0, .int 0, .ref (a + 1), .ref (a + 2), .ref (a + 3), .ref (a + 4), .ref (a + 5), .ref (a + 6)], cI 56 (fun _ => 0), cI 56 (fun _ => 0), cI 56 (fun _ => 0), cI 56 (fun _ => 0), cI 56 (fun _ => 0), cI 56 (fun _ => 0)]
set_option maxRecDepth 20000 in
theorem s_X5_init {M : Mem} {a : Nat} (h : M a = some (cO 4 df_X5)) : SpecA mX5_init 2 6 392 (a + 1) [.ref a] M (tP none (fun Mf => Mf = lset M a (scs a S00))) := by
  refine SpecA_of [some (.ref a)] (by decide) (Nat.le_of_ble_eq_true rfl) rfl (fun h500 => ?_)
  refine G_M (lself h) ?_
  refine r_aload0 (pc := 0) dX5_init_0 ?_
  refine r_objInit (pc := 1) (tG 58 (by decide +kernel) (by decide +kernel)) (tG 45 (by decide +kernel) (by decide +kernel)) (tG 46 (by decide +kernel) (by decide +kernel)) dX5_init_1 (by decide) (Nat.le_of_ble_eq_true rfl) ?_
  refine r_aload0 (pc := 4) dX5_init_4 ?_
  refine n_bipush (pc := 5) 112 (by decide) dX5_init_5 ?_
  refine r_newI (pc := 7) (a + 1) (by omega) (by omega) (by decide) dX5_init_7 (by decide) (by decide) ?_
  refine G_M (lset_push [cO 4 df_X5, cI 112 (fun _ => 0)] (n := 1) rfl rfl) ?_
  refine r_putfRF (pc := 9) fl_X5_9 ⟨_, _, rfl⟩ dX5_init_9 (lget0 rfl) (Nat.le_of_ble_eq_true rfl) (fun _ => ⟨rfl, rfl⟩) rfl ?_
  refine G_M (lset_set0 [cO 4 [.int 0, .int 0, .int 0, .ref (a + 1), .null, .null, .null, .null, .null], cI 112 (fun _ => 0)] (Nat.le_of_ble_eq_true rfl) rfl) ?_
  refine r_aload0 (pc := 12) dX5_init_12 ?_
  refine n_bipush (pc := 13) 56 (by decide) dX5_init_13 ?_
  refine r_newI (pc := 15) (a + 2) (by omega) (by omega) (by decide) dX5_init_15 (by decide) (by decide) ?_
  refine G_M (lset_push [cO 4 [.int 0, .int 0, .int 0, .ref (a + 1), .null, .null, .null, .null, .null], cI 112 (fun _ => 0), cI 56 (fun _ => 0)] (n := 2) rfl rfl) ?_
  refine r_putfRF (pc := 17) fl_X5_15 ⟨_, _, rfl⟩ dX5_init_17 (lget0 rfl) (Nat.le_of_ble_eq_true rfl) (fun _ => ⟨rfl, rfl⟩) rfl ?_
  refine G_M (lset_set0 [cO 4 [.int 0, .int 0, .int 0, .ref (a + 1), .ref (a + 2), .null, .null, .null, .null], cI 112 (fun _ => 0), cI 56 (fun _ => 0)] (Nat.le_of_ble_eq_true rfl) rfl) ?_
  refine r_aload0 (pc := 20) dX5_init_20 ?_
  refine n_bipush (pc := 21) 56 (by decide) dX5_init_21 ?_
  refine r_newI (pc := 23) (a + 3) (by omega) (by omega) (by decide) dX5_init_23 (by decide) (by decide) ?_
  refine G_M (lset_push [cO 4 [.int 0, .int 0, .int 0, .ref (a + 1), .ref (a + 2), .null, .null, .null, .null], cI 112 (fun _ => 0), cI 56 (fun _ => 0), cI 56 (fun _ => 0)] (n := 3) rfl rfl) ?_
  refine r_putfRF (pc := 25) fl_X5_18 ⟨_, _, rfl⟩ dX5_init_25 (lget0 rfl) (Nat.le_of_ble_eq_true rfl) (fun _ => ⟨rfl, rfl⟩) rfl ?_
  refine G_M (lset_set0 [cO 4 [.int 0, .int 0, .int 0, .ref (a + 1), .ref (a + 2), .ref (a + 3), .null, .null, .null], cI 112 (fun _ => 0), cI 56 (fun _ => 0), cI 56 (fun _ => 0)] (Nat.le_of_ble_eq_true rfl) rfl) ?_
  refine r_aload0 (pc := 28) dX5_init_28 ?_
  refine n_bipush (pc := 29) 56 (by decide) dX5_init_29 ?_
  refine r_newI (pc := 31) (a + 4) (by omega) (by omega) (by decide) dX5_init_31 (by decide) (by decide) ?_
  refine G_M (lset_push [cO 4 [.int 0, .int 0, .int 0, .ref (a + 1), .ref (a + 2), .ref (a + 3), .null, .null, .null], cI 112 (fun _ => 0), cI 56 (fun _ => 0), cI 56 (fun _ => 0), cI 56 (fun _ => 0)] (n := 4) rfl rfl) ?_
  refine r_putfRF (pc := 33) fl_X5_21 ⟨_, _, rfl⟩ dX5_init_33 (lget0 rfl) (Nat.le_of_ble_eq_true rfl) (fun _ => ⟨rfl, rfl⟩) rfl ?_
  refine G_M (lset_set0 [cO 4 [.int 0, .int 0, .int 0, .ref (a + 1), .ref (a + 2), .ref (a + 3), .ref (a + 4), .null, .null], cI 112 (fun _ => 0), cI 56 (fun _ => 0), cI 56 (fun _ => 0), cI 56 (fun _ => 0)] (Nat.le_of_ble_eq_true rfl) rfl) ?_
  refine r_aload0 (pc := 36) dX5_init_36 ?_
  refine n_bipush (pc := 37) 56 (by decide) dX5_init_37 ?_
  refine r_newI (pc := 39) (a + 5) (by omega) (by omega) (by decide) dX5_init_39 (by decide) (by decide) ?_
  refine G_M (lset_push [cO 4 [.int 0, .int 0, .int 0, .ref (a + 1), .ref (a + 2), .ref (a + 3), .ref (a + 4), .null, .null], cI 112 (fun _ => 0), cI 56 (fun _ => 0), cI 56 (fun _ => 0), cI 56 (fun _ => 0), cI 56 (fun _ => 0)] (n := 5) rfl rfl) ?_
  refine r_putfRF (pc := 41) fl_X5_24 ⟨_, _, rfl⟩ dX5_init_41 (lget0 rfl) (Nat.le_of_ble_eq_true rfl) (fun _ => ⟨rfl, rfl⟩) rfl ?_
  refine G_M (lset_set0 [cO 4 [.int 0, .int 0, .int 0, .ref (a + 1), .ref (a + 2), .ref (a + 3), .ref (a + 4), .ref (a + 5), .null], cI 112 (fun _ => 0), cI 56 (fun _ => 0), cI 56 (fun _ => 0), cI 56 (fun _ => 0), cI 56 (fun _ => 0)] (Nat.le_of_ble_eq_true rfl) rfl) ?_
  refine r_aload0 (pc := 44) dX5_init_44 ?_
  refine n_bipush (pc := 45) 56 (by decide) dX5_init_45 ?_
  refine r_newI (pc := 47) (a + 6) (by omega) (by omega) (by decide) dX5_init_47 (by decide) (by decide) ?_
  refine G_M (lset_push [cO 4 [.int 0, .int 0, .int 0, .ref (a + 1), .ref (a + 2), .ref (a + 3), .ref (a + 4), .ref (a + 5), .null], cI 112 (fun _ => 0), cI 56 (fun _ => 0), cI 56 (fun _ => 0), cI 56 (fun _ => 0), cI 56 (fun _ => 0), cI 56 (fun _ => 0)] (n := 6) rfl rfl) ?_
  refine r_putfRF (pc := 49) fl_X5_27 ⟨_, _, rfl⟩ dX5_init_49 (lget0 rfl) (Nat.le_of_ble_eq_true rfl) (fun _ => ⟨rfl, rfl⟩) rfl ?_
  refine G_M (lset_set0 [cO 4 [.int 0, .int 0, .int 0, .ref (a + 1), .ref (a + 2), .ref (a + 3), .ref (a + 4), .ref (a + 5), .ref (a + 6)], cI 112 (fun _ => 0), cI 56 (fun _ => 0), cI 56 (fun _ => 0), cI 56 (fun _ => 0), cI 56 (fun _ => 0), cI 56 (fun _ => 0)] (Nat.le_of_ble_eq_true rfl) rfl) ?_
  exact p_return (pc := 52) false rfl rfl dX5_init_52 (by decide) (by decide) (Or.inr rfl) ⟨rfl, rfl⟩
set_option maxRecDepth 20000 in
theorem s_X3_init {M : Mem} {a : Nat} (h : M a = some (cO 2 df_X3)) : SpecA mX3_init 2 6 336 (a + 1) [.ref a] M (tP none (fun Mf => Mf = lset M a (qcs a))) := by
  refine SpecA_of [some (.ref a)] (by decide) (Nat.le_of_ble_eq_true rfl) rfl (fun h500 => ?_)
  refine G_M (lself h) ?_
  refine r_aload0 (pc := 0) dX3_init_0 ?_
  refine r_objInit (pc := 1) (tG 119 (by decide +kernel) (by decide +kernel)) (tG 45 (by decide +kernel) (by decide +kernel)) (tG 46 (by decide +kernel) (by decide +kernel)) dX3_init_1 (by decide) (Nat.le_of_ble_eq_true rfl) ?_
  refine r_aload0 (pc := 4) dX3_init_4 ?_
  refine n_bipush (pc := 5) 56 (by decide) dX3_init_5 ?_
  refine r_newI (pc := 7) (a + 1) (by omega) (by omega) (by decide) dX3_init_7 (by decide) (by decide) ?_
  refine G_M (lset_push [cO 2 df_X3, cI 56 (fun _ => 0)] (n := 1) rfl rfl) ?_
  refine r_putfRF (pc := 9) fl_X3_9 ⟨_, _, rfl⟩ dX3_init_9 (lget0 rfl) (Nat.le_of_ble_eq_true rfl) (fun _ => ⟨rfl, rfl⟩) rfl ?_
  refine G_M (lset_set0 [cO 2 [.int 0, .int 0, .ref (a + 1), .null, .null, .null, .null, .null], cI 56 (fun _ => 0)] (Nat.le_of_ble_eq_true rfl) rfl) ?_
  refine r_aload0 (pc := 12) dX3_init_12 ?_
  refine n_bipush (pc := 13) 56 (by decide) dX3_init_13 ?_
  refine r_newI (pc := 15) (a + 2) (by omega) (by omega) (by decide) dX3_init_15 (by decide) (by decide) ?_
  refine G_M (lset_push [cO 2 [.int 0, .int 0, .ref (a + 1), .null, .null, .null, .null, .null], cI 56 (fun _ => 0), cI 56 (fun _ => 0)] (n := 2) rfl rfl) ?_
  refine r_putfRF (pc := 17) fl_X3_15 ⟨_, _, rfl⟩ dX3_init_17 (lget0 rfl) (Nat.le_of_ble_eq_true rfl) (fun _ => ⟨rfl, rfl⟩) rfl ?_
  refine G_M (lset_set0 [cO 2 [.int 0, .int 0, .ref (a + 1), .ref (a + 2), .null, .null, .null, .null], cI 56 (fun _ => 0), cI 56 (fun _ => 0)] (Nat.le_of_ble_eq_true rfl) rfl) ?_
  refine r_aload0 (pc := 20) dX3_init_20 ?_
  refine n_bipush (pc := 21) 56 (by decide) dX3_init_21 ?_
  refine r_newI (pc := 23) (a + 3) (by omega) (by omega) (by decide) dX3_init_23 (by decide) (by decide) ?_
  refine G_M (lset_push [cO 2 [.int 0, .int 0, .ref (a + 1), .ref (a + 2), .null, .null, .null, .null], cI 56 (fun _ => 0), cI 56 (fun _ => 0), cI 56 (fun _ => 0)] (n := 3) rfl rfl) ?_
  refine r_putfRF (pc := 25) fl_X3_18 ⟨_, _, rfl⟩ dX3_init_25 (lget0 rfl) (Nat.le_of_ble_eq_true rfl) (fun _ => ⟨rfl, rfl⟩) rfl ?_
  refine G_M (lset_set0 [cO 2 [.int 0, .int 0, .ref (a + 1), .ref (a + 2), .ref (a + 3), .null, .null, .null], cI 56 (fun _ => 0), cI 56 (fun _ => 0), cI 56 (fun _ => 0)] (Nat.le_of_ble_eq_true rfl) rfl) ?_
  refine r_aload0 (pc := 28) dX3_init_28 ?_
  refine n_bipush (pc := 29) 56 (by decide) dX3_init_29 ?_
  refine r_newI (pc := 31) (a + 4) (by omega) (by omega) (by decide) dX3_init_31 (by decide) (by decide) ?_
  refine G_M (lset_push [cO 2 [.int 0, .int 0, .ref (a + 1), .ref (a + 2), .ref (a + 3), .null, .null, .null], cI 56 (fun _ => 0), cI 56 (fun _ => 0), cI 56 (fun _ => 0), cI 56 (fun _ => 0)] (n := 4) rfl rfl) ?_
  refine r_putfRF (pc := 33) fl_X3_21 ⟨_, _, rfl⟩ dX3_init_33 (lget0 rfl) (Nat.le_of_ble_eq_true rfl) (fun _ => ⟨rfl, rfl⟩) rfl ?_
  refine G_M (lset_set0 [cO 2 [.int 0, .int 0, .ref (a + 1), .ref (a + 2), .ref (a + 3), .ref (a + 4), .null, .null], cI 56 (fun _ => 0), cI 56 (fun _ => 0), cI 56 (fun _ => 0), cI 56 (fun _ => 0)] (Nat.le_of_ble_eq_true rfl) rfl) ?_
  refine r_aload0 (pc := 36) dX3_init_36 ?_
  refine n_bipush (pc := 37) 56 (by decide) dX3_init_37 ?_
  refine r_newI (pc := 39) (a + 5) (by omega) (by omega) (by decide) dX3_init_39 (by decide) (by decide) ?_
  refine G_M (lset_push [cO 2 [.int 0, .int 0, .ref (a + 1), .ref (a + 2), .ref (a + 3), .ref (a + 4), .null, .null], cI 56 (fun _ => 0), cI 56 (fun _ => 0), cI 56 (fun _ => 0), cI 56 (fun _ => 0), cI 56 (fun _ => 0)] (n := 5) rfl rfl) ?_
  refine r_putfRF (pc := 41) fl_X3_24 ⟨_, _, rfl⟩ dX3_init_41 (lget0 rfl) (Nat.le_of_ble_eq_true rfl) (fun _ => ⟨rfl, rfl⟩) rfl ?_
  refine G_M (lset_set0 [cO 2 [.int 0, .int 0, .ref (a + 1), .ref (a + 2), .ref (a + 3), .ref (a + 4), .ref (a + 5), .null], cI 56 (fun _ => 0), cI 56 (fun _ => 0), cI 56 (fun _ => 0), cI 56 (fun _ => 0), cI 56 (fun _ => 0)] (Nat.le_of_ble_eq_true rfl) rfl) ?_
  refine r_aload0 (pc := 44) dX3_init_44 ?_
  refine n_bipush (pc := 45) 56 (by decide) dX3_init_45 ?_
  refine r_newI (pc := 47) (a + 6) (by omega) (by omega) (by decide) dX3_init_47 (by decide) (by decide) ?_
  refine G_M (lset_push [cO 2 [.int 0, .int 0, .ref (a + 1), .ref (a + 2), .ref (a + 3), .ref (a + 4), .ref (a + 5), .null], cI 56 (fun _ => 0), cI 56 (fun _ => 0), cI 56 (fun _ => 0), cI 56 (fun _ => 0), cI 56 (fun _ => 0), cI 56 (fun _ => 0)] (n := 6) rfl rfl) ?_
  refine r_putfRF (pc := 49) fl_X3_27 ⟨_, _, rfl⟩ dX3_init_49 (lget0 rfl) (Nat.le_of_ble_eq_true rfl) (fun _ => ⟨rfl, rfl⟩) rfl ?_
  refine G_M (lset_set0 [cO 2 [.int 0, .int 0, .ref (a + 1), .ref (a + 2), .ref (a + 3), .ref (a + 4), .ref (a + 5), .ref (a + 6)], cI 56 (fun _ => 0), cI 56 (fun _ => 0), cI 56 (fun _ => 0), cI 56 (fun _ => 0), cI 56 (fun _ => 0), cI 56 (fun _ => 0)] (Nat.le_of_ble_eq_true rfl) rfl) ?_
  exact p_return (pc := 52) false rfl rfl dX3_init_52 (by decide) (by decide) (Or.inr rfl) ⟨rfl, rfl⟩
theorem scs_len2 (a : Nat) : (scs a S00).length = 7 := rfl
theorem lset_sAt {M : Mem} {a : Nat} : sAt (lset M a (scs a S00)) a S00 := fun _ _ h => lget h
set_option maxRecDepth 20000 in
theorem s_X0_init {M : Mem} {a : Nat} (h : M a = some (cO 0 df_X0)) : SpecA mX0_init 3 21 1193 (a + 1) [.ref a] M (tP none (fun Mf => Mf = bset M a B00)) := by
  refine SpecA_of [some (.ref a)] (by decide) (Nat.le_of_ble_eq_true rfl) rfl (fun h500 => ?_)
  refine G_M (lself h) ?_
  refine r_aload0 (pc := 0) dX0_init_0 ?_
  refine r_objInit (pc := 1) (tG 52 (by decide +kernel) (by decide +kernel)) (tG 45 (by decide +kernel) (by decide +kernel)) (tG 46 (by decide +kernel) (by decide +kernel)) dX0_init_1 (by decide) (Nat.le_of_ble_eq_true rfl) ?_
  refine r_aload0 (pc := 4) dX0_init_4 ?_
  refine r_new (pc := 5) (ci := 4) (fs := df_X5) (a + 1) (by omega) (by omega) rfl (tG 53 (by decide +kernel) (by decide +kernel)) (tG 54 (by decide +kernel) (by decide +kernel)) (tG 20 (by decide +kernel) (by decide +kernel)) dv_X5 (fun _ => rfl) dX0_init_5 (by decide) (by decide) ?_
  refine G_M (lset_push [cO 0 df_X0, cO 4 df_X5] (n := 1) rfl rfl) ?_
  refine r_dup (pc := 8) dX0_init_8 rfl ?_
  refine r_callA0 (pc := 9) (k' := a + 2) (Or.inr lk_X0_11) dX0_init_9 (by omega) (by omega) (s_X5_init (M := lset M a [cO 0 df_X0, cO 4 df_X5]) (a := a + 1) (lget rfl)) (by decide) (Nat.le_of_ble_eq_true rfl) (by decide) (fun M9 h9 => ?_)
  subst h9
  refine G_M (lset_tail [cO 0 df_X0, cO 4 [.int 0, .int 0, .int 0, .ref (a + 2), .ref (a + 3), .ref (a + 4), .ref (a + 5), .ref (a + 6), .ref (a + 7)], cI 112 (fun _ => 0), cI 56 (fun _ => 0), cI 56 (fun _ => 0), cI 56 (fun _ => 0), cI 56 (fun _ => 0), cI 56 (fun _ => 0)] (j := 1) rfl (Nat.le_of_ble_eq_true rfl) rfl) ?_
  refine r_putfRF (pc := 12) fl_X0_12 ⟨_, _, rfl⟩ dX0_init_12 (lget0 rfl) (Nat.le_of_ble_eq_true rfl) (fun _ => ⟨rfl, rfl⟩) rfl ?_
  refine G_M (lset_set0 [cO 0 [.ref (a + 1), .int 0, .int 0, .int 0, .int 0, .null, .null, .null, .null, .null, .null, .null, .null], cO 4 [.int 0, .int 0, .int 0, .ref (a + 2), .ref (a + 3), .ref (a + 4), .ref (a + 5), .ref (a + 6), .ref (a + 7)], cI 112 (fun _ => 0), cI 56 (fun _ => 0), cI 56 (fun _ => 0), cI 56 (fun _ => 0), cI 56 (fun _ => 0), cI 56 (fun _ => 0)] (Nat.le_of_ble_eq_true rfl) rfl) ?_
  refine r_aload0 (pc := 15) dX0_init_15 ?_
  refine n_bipush (pc := 16) 56 (by decide) dX0_init_16 ?_
  refine r_newI (pc := 18) (a + 8) (by omega) (by omega) (by decide) dX0_init_18 (by decide) (by decide) ?_
  refine G_M (lset_push [cO 0 [.ref (a + 1), .int 0, .int 0, .int 0, .int 0, .null, .null, .null, .null, .null, .null, .null, .null], cO 4 [.int 0, .int 0, .int 0, .ref (a + 2), .ref (a + 3), .ref (a + 4), .ref (a + 5), .ref (a + 6), .ref (a + 7)], cI 112 (fun _ => 0), cI 56 (fun _ => 0), cI 56 (fun _ => 0), cI 56 (fun _ => 0), cI 56 (fun _ => 0), cI 56 (fun _ => 0), cI 56 (fun _ => 0)] (n := 8) rfl rfl) ?_
  refine r_putfRF (pc := 20) fl_X0_18 ⟨_, _, rfl⟩ dX0_init_20 (lget0 rfl) (Nat.le_of_ble_eq_true rfl) (fun _ => ⟨rfl, rfl⟩) rfl ?_
  refine G_M (lset_set0 [cO 0 [.ref (a + 1), .int 0, .int 0, .int 0, .int 0, .ref (a + 8), .null, .null, .null, .null, .null, .null, .null], cO 4 [.int 0, .int 0, .int 0, .ref (a + 2), .ref (a + 3), .ref (a + 4), .ref (a + 5), .ref (a + 6), .ref (a + 7)], cI 112 (fun _ => 0), cI 56 (fun _ => 0), cI 56 (fun _ => 0), cI 56 (fun _ => 0), cI 56 (fun _ => 0), cI 56 (fun _ => 0), cI 56 (fun _ => 0)] (Nat.le_of_ble_eq_true rfl) rfl) ?_
  refine r_aload0 (pc := 23) dX0_init_23 ?_
  refine n_bipush (pc := 24) 56 (by decide) dX0_init_24 ?_
  refine r_newI (pc := 26) (a + 9) (by omega) (by omega) (by decide) dX0_init_26 (by decide) (by decide) ?_
  refine G_M (lset_push [cO 0 [.ref (a + 1), .int 0, .int 0, .int 0, .int 0, .ref (a + 8), .null, .null, .null, .null, .null, .null, .null], cO 4 [.int 0, .int 0, .int 0, .ref (a + 2), .ref (a + 3), .ref (a + 4), .ref (a + 5), .ref (a + 6), .ref (a + 7)], cI 112 (fun _ => 0), cI 56 (fun _ => 0), cI 56 (fun _ => 0), cI 56 (fun _ => 0), cI 56 (fun _ => 0), cI 56 (fun _ => 0), cI 56 (fun _ => 0), cI 56 (fun _ => 0)] (n := 9) rfl rfl) ?_
  refine r_putfRF (pc := 28) fl_X0_22 ⟨_, _, rfl⟩ dX0_init_28 (lget0 rfl) (Nat.le_of_ble_eq_true rfl) (fun _ => ⟨rfl, rfl⟩) rfl ?_
  refine G_M (lset_set0 [cO 0 [.ref (a + 1), .int 0, .int 0, .int 0, .int 0, .ref (a + 8), .ref (a + 9), .null, .null, .null, .null, .null, .null], cO 4 [.int 0, .int 0, .int 0, .ref (a + 2), .ref (a + 3), .ref (a + 4), .ref (a + 5), .ref (a + 6), .ref (a + 7)], cI 112 (fun _ => 0), cI 56 (fun _ => 0), cI 56 (fun _ => 0), cI 56 (fun _ => 0), cI 56 (fun _ => 0), cI 56 (fun _ => 0), cI 56 (fun _ => 0), cI 56 (fun _ => 0)] (Nat.le_of_ble_eq_true rfl) rfl) ?_
  refine r_aload0 (pc := 31) dX0_init_31 ?_
  refine n_bipush (pc := 32) 56 (by decide) dX0_init_32 ?_
  refine r_newI (pc := 34) (a + 10) (by omega) (by omega) (by decide) dX0_init_34 (by decide) (by decide) ?_
  refine G_M (lset_push [cO 0 [.ref (a + 1), .int 0, .int 0, .int 0, .int 0, .ref (a + 8), .ref (a + 9), .null, .null, .null, .null, .null, .null], cO 4 [.int 0, .int 0, .int 0, .ref (a + 2), .ref (a + 3), .ref (a + 4), .ref (a + 5), .ref (a + 6), .ref (a + 7)], cI 112 (fun _ => 0), cI 56 (fun _ => 0), cI 56 (fun _ => 0), cI 56 (fun _ => 0), cI 56 (fun _ => 0), cI 56 (fun _ => 0), cI 56 (fun _ => 0), cI 56 (fun _ => 0), cI 56 (fun _ => 0)] (n := 10) rfl rfl) ?_
  refine r_putfRF (pc := 36) fl_X0_25 ⟨_, _, rfl⟩ dX0_init_36 (lget0 rfl) (Nat.le_of_ble_eq_true rfl) (fun _ => ⟨rfl, rfl⟩) rfl ?_
  refine G_M (lset_set0 [cO 0 [.ref (a + 1), .int 0, .int 0, .int 0, .int 0, .ref (a + 8), .ref (a + 9), .ref (a + 10), .null, .null, .null, .null, .null], cO 4 [.int 0, .int 0, .int 0, .ref (a + 2), .ref (a + 3), .ref (a + 4), .ref (a + 5), .ref (a + 6), .ref (a + 7)], cI 112 (fun _ => 0), cI 56 (fun _ => 0), cI 56 (fun _ => 0), cI 56 (fun _ => 0), cI 56 (fun _ => 0), cI 56 (fun _ => 0), cI 56 (fun _ => 0), cI 56 (fun _ => 0), cI 56 (fun _ => 0)] (Nat.le_of_ble_eq_true rfl) rfl) ?_
  refine r_aload0 (pc := 39) dX0_init_39 ?_
  refine n_bipush (pc := 40) 56 (by decide) dX0_init_40 ?_
  refine r_newI (pc := 42) (a + 11) (by omega) (by omega) (by decide) dX0_init_42 (by decide) (by decide) ?_
  refine G_M (lset_push [cO 0 [.ref (a + 1), .int 0, .int 0, .int 0, .int 0, .ref (a + 8), .ref (a + 9), .ref (a + 10), .null, .null, .null, .null, .null], cO 4 [.int 0, .int 0, .int 0, .ref (a + 2), .ref (a + 3), .ref (a + 4), .ref (a + 5), .ref (a + 6), .ref (a + 7)], cI 112 (fun _ => 0), cI 56 (fun _ => 0), cI 56 (fun _ => 0), cI 56 (fun _ => 0), cI 56 (fun _ => 0), cI 56 (fun _ => 0), cI 56 (fun _ => 0), cI 56 (fun _ => 0), cI 56 (fun _ => 0), cI 56 (fun _ => 0)] (n := 11) rfl rfl) ?_
  refine r_putfRF (pc := 44) fl_X0_28 ⟨_, _, rfl⟩ dX0_init_44 (lget0 rfl) (Nat.le_of_ble_eq_true rfl) (fun _ => ⟨rfl, rfl⟩) rfl ?_
  refine G_M (lset_set0 [cO 0 [.ref (a + 1), .int 0, .int 0, .int 0, .int 0, .ref (a + 8), .ref (a + 9), .ref (a + 10), .ref (a + 11), .null, .null, .null, .null], cO 4 [.int 0, .int 0, .int 0, .ref (a + 2), .ref (a + 3), .ref (a + 4), .ref (a + 5), .ref (a + 6), .ref (a + 7)], cI 112 (fun _ => 0), cI 56 (fun _ => 0), cI 56 (fun _ => 0), cI 56 (fun _ => 0), cI 56 (fun _ => 0), cI 56 (fun _ => 0), cI 56 (fun _ => 0), cI 56 (fun _ => 0), cI 56 (fun _ => 0), cI 56 (fun _ => 0)] (Nat.le_of_ble_eq_true rfl) rfl) ?_
  refine r_aload0 (pc := 47) dX0_init_47 ?_
  refine n_bipush (pc := 48) 112 (by decide) dX0_init_48 ?_
  refine r_newI (pc := 50) (a + 12) (by omega) (by omega) (by decide) dX0_init_50 (by decide) (by decide) ?_
  refine G_M (lset_push [cO 0 [.ref (a + 1), .int 0, .int 0, .int 0, .int 0, .ref (a + 8), .ref (a + 9), .ref (a + 10), .ref (a + 11), .null, .null, .null, .null], cO 4 [.int 0, .int 0, .int 0, .ref (a + 2), .ref (a + 3), .ref (a + 4), .ref (a + 5), .ref (a + 6), .ref (a + 7)], cI 112 (fun _ => 0), cI 56 (fun _ => 0), cI 56 (fun _ => 0), cI 56 (fun _ => 0), cI 56 (fun _ => 0), cI 56 (fun _ => 0), cI 56 (fun _ => 0), cI 56 (fun _ => 0), cI 56 (fun _ => 0), cI 56 (fun _ => 0), cI 112 (fun _ => 0)] (n := 12) rfl rfl) ?_
  refine r_putfRF (pc := 52) fl_X0_31 ⟨_, _, rfl⟩ dX0_init_52 (lget0 rfl) (Nat.le_of_ble_eq_true rfl) (fun _ => ⟨rfl, rfl⟩) rfl ?_
  refine G_M (lset_set0 [cO 0 [.ref (a + 1), .int 0, .int 0, .int 0, .int 0, .ref (a + 8), .ref (a + 9), .ref (a + 10), .ref (a + 11), .ref (a + 12), .null, .null, .null], cO 4 [.int 0, .int 0, .int 0, .ref (a + 2), .ref (a + 3), .ref (a + 4), .ref (a + 5), .ref (a + 6), .ref (a + 7)], cI 112 (fun _ => 0), cI 56 (fun _ => 0), cI 56 (fun _ => 0), cI 56 (fun _ => 0), cI 56 (fun _ => 0), cI 56 (fun _ => 0), cI 56 (fun _ => 0), cI 56 (fun _ => 0), cI 56 (fun _ => 0), cI 56 (fun _ => 0), cI 112 (fun _ => 0)] (Nat.le_of_ble_eq_true rfl) rfl) ?_
  refine r_aload0 (pc := 55) dX0_init_55 ?_
  refine r_new (pc := 56) (ci := 2) (fs := df_X3) (a + 13) (by omega) (by omega) rfl (tG 114 (by decide +kernel) (by decide +kernel)) (tG 115 (by decide +kernel) (by decide +kernel)) (tG 21 (by decide +kernel) (by decide +kernel)) dv_X3 (fun _ => rfl) dX0_init_56 (by decide) (by decide) ?_
  refine G_M (lset_push [cO 0 [.ref (a + 1), .int 0, .int 0, .int 0, .int 0, .ref (a + 8), .ref (a + 9), .ref (a + 10), .ref (a + 11), .ref (a + 12), .null, .null, .null], cO 4 [.int 0, .int 0, .int 0, .ref (a + 2), .ref (a + 3), .ref (a + 4), .ref (a + 5), .ref (a + 6), .ref (a + 7)], cI 112 (fun _ => 0), cI 56 (fun _ => 0), cI 56 (fun _ => 0), cI 56 (fun _ => 0), cI 56 (fun _ => 0), cI 56 (fun _ => 0), cI 56 (fun _ => 0), cI 56 (fun _ => 0), cI 56 (fun _ => 0), cI 56 (fun _ => 0), cI 112 (fun _ => 0), cO 2 df_X3] (n := 13) rfl rfl) ?_
  refine r_dup (pc := 59) dX0_init_59 rfl ?_
  refine r_callA0 (pc := 60) (k' := a + 14) (Or.inr lk_X0_36) dX0_init_60 (by omega) (by omega) (s_X3_init (M := lset M a [cO 0 [.ref (a + 1), .int 0, .int 0, .int 0, .int 0, .ref (a + 8), .ref (a + 9), .ref (a + 10), .ref (a + 11), .ref (a + 12), .null, .null, .null], cO 4 [.int 0, .int 0, .int 0, .ref (a + 2), .ref (a + 3), .ref (a + 4), .ref (a + 5), .ref (a + 6), .ref (a + 7)], cI 112 (fun _ => 0), cI 56 (fun _ => 0), cI 56 (fun _ => 0), cI 56 (fun _ => 0), cI 56 (fun _ => 0), cI 56 (fun _ => 0), cI 56 (fun _ => 0), cI 56 (fun _ => 0), cI 56 (fun _ => 0), cI 56 (fun _ => 0), cI 112 (fun _ => 0), cO 2 df_X3]) (a := a + 13) (lget rfl)) (by decide) (Nat.le_of_ble_eq_true rfl) (by decide) (fun M9 h9 => ?_)
  subst h9
  refine G_M (lset_tail [cO 0 [.ref (a + 1), .int 0, .int 0, .int 0, .int 0, .ref (a + 8), .ref (a + 9), .ref (a + 10), .ref (a + 11), .ref (a + 12), .null, .null, .null], cO 4 [.int 0, .int 0, .int 0, .ref (a + 2), .ref (a + 3), .ref (a + 4), .ref (a + 5), .ref (a + 6), .ref (a + 7)], cI 112 (fun _ => 0), cI 56 (fun _ => 0), cI 56 (fun _ => 0), cI 56 (fun _ => 0), cI 56 (fun _ => 0), cI 56 (fun _ => 0), cI 56 (fun _ => 0), cI 56 (fun _ => 0), cI 56 (fun _ => 0), cI 56 (fun _ => 0), cI 112 (fun _ => 0), cO 2 [.int 0, .int 0, .ref (a + 14), .ref (a + 15), .ref (a + 16), .ref (a + 17), .ref (a + 18), .ref (a + 19)], cI 56 (fun _ => 0), cI 56 (fun _ => 0), cI 56 (fun _ => 0), cI 56 (fun _ => 0), cI 56 (fun _ => 0), cI 56 (fun _ => 0)] (j := 13) rfl (Nat.le_of_ble_eq_true rfl) rfl) ?_
  refine r_putfRF (pc := 63) fl_X0_37 ⟨_, _, rfl⟩ dX0_init_63 (lget0 rfl) (Nat.le_of_ble_eq_true rfl) (fun _ => ⟨rfl, rfl⟩) rfl ?_
  refine G_M (lset_set0 [cO 0 [.ref (a + 1), .int 0, .int 0, .int 0, .int 0, .ref (a + 8), .ref (a + 9), .ref (a + 10), .ref (a + 11), .ref (a + 12), .ref (a + 13), .null, .null], cO 4 [.int 0, .int 0, .int 0, .ref (a + 2), .ref (a + 3), .ref (a + 4), .ref (a + 5), .ref (a + 6), .ref (a + 7)], cI 112 (fun _ => 0), cI 56 (fun _ => 0), cI 56 (fun _ => 0), cI 56 (fun _ => 0), cI 56 (fun _ => 0), cI 56 (fun _ => 0), cI 56 (fun _ => 0), cI 56 (fun _ => 0), cI 56 (fun _ => 0), cI 56 (fun _ => 0), cI 112 (fun _ => 0), cO 2 [.int 0, .int 0, .ref (a + 14), .ref (a + 15), .ref (a + 16), .ref (a + 17), .ref (a + 18), .ref (a + 19)], cI 56 (fun _ => 0), cI 56 (fun _ => 0), cI 56 (fun _ => 0), cI 56 (fun _ => 0), cI 56 (fun _ => 0), cI 56 (fun _ => 0)] (Nat.le_of_ble_eq_true rfl) rfl) ?_
  refine r_aload0 (pc := 66) dX0_init_66 ?_
  refine n_bipush (pc := 67) 56 (by decide) dX0_init_67 ?_
  refine r_newI (pc := 69) (a + 20) (by omega) (by omega) (by decide) dX0_init_69 (by decide) (by decide) ?_
  refine G_M (lset_push [cO 0 [.ref (a + 1), .int 0, .int 0, .int 0, .int 0, .ref (a + 8), .ref (a + 9), .ref (a + 10), .ref (a + 11), .ref (a + 12), .ref (a + 13), .null, .null], cO 4 [.int 0, .int 0, .int 0, .ref (a + 2), .ref (a + 3), .ref (a + 4), .ref (a + 5), .ref (a + 6), .ref (a + 7)], cI 112 (fun _ => 0), cI 56 (fun _ => 0), cI 56 (fun _ => 0), cI 56 (fun _ => 0), cI 56 (fun _ => 0), cI 56 (fun _ => 0), cI 56 (fun _ => 0), cI 56 (fun _ => 0), cI 56 (fun _ => 0), cI 56 (fun _ => 0), cI 112 (fun _ => 0), cO 2 [.int 0, .int 0, .ref (a + 14), .ref (a + 15), .ref (a + 16), .ref (a + 17), .ref (a + 18), .ref (a + 19)], cI 56 (fun _ => 0), cI 56 (fun _ => 0), cI 56 (fun _ => 0), cI 56 (fun _ => 0), cI 56 (fun _ => 0), cI 56 (fun _ => 0), cI 56 (fun _ => 0)] (n := 20) rfl rfl) ?_
  refine r_putfRF (pc := 71) fl_X0_41 ⟨_, _, rfl⟩ dX0_init_71 (lget0 rfl) (Nat.le_of_ble_eq_true rfl) (fun _ => ⟨rfl, rfl⟩) rfl ?_
  refine G_M (lset_set0 [cO 0 [.ref (a + 1), .int 0, .int 0, .int 0, .int 0, .ref (a + 8), .ref (a + 9), .ref (a + 10), .ref (a + 11), .ref (a + 12), .ref (a + 13), .ref (a + 20), .null], cO 4 [.int 0, .int 0, .int 0, .ref (a + 2), .ref (a + 3), .ref (a + 4), .ref (a + 5), .ref (a + 6), .ref (a + 7)], cI 112 (fun _ => 0), cI 56 (fun _ => 0), cI 56 (fun _ => 0), cI 56 (fun _ => 0), cI 56 (fun _ => 0), cI 56 (fun _ => 0), cI 56 (fun _ => 0), cI 56 (fun _ => 0), cI 56 (fun _ => 0), cI 56 (fun _ => 0), cI 112 (fun _ => 0), cO 2 [.int 0, .int 0, .ref (a + 14), .ref (a + 15), .ref (a + 16), .ref (a + 17), .ref (a + 18), .ref (a + 19)], cI 56 (fun _ => 0), cI 56 (fun _ => 0), cI 56 (fun _ => 0), cI 56 (fun _ => 0), cI 56 (fun _ => 0), cI 56 (fun _ => 0), cI 56 (fun _ => 0)] (Nat.le_of_ble_eq_true rfl) rfl) ?_
  refine r_aload0 (pc := 74) dX0_init_74 ?_
  refine n_bipush (pc := 75) 56 (by decide) dX0_init_75 ?_
  refine r_newI (pc := 77) (a + 21) (by omega) (by omega) (by decide) dX0_init_77 (by decide) (by decide) ?_
  refine G_M (lset_push [cO 0 [.ref (a + 1), .int 0, .int 0, .int 0, .int 0, .ref (a + 8), .ref (a + 9), .ref (a + 10), .ref (a + 11), .ref (a + 12), .ref (a + 13), .ref (a + 20), .null], cO 4 [.int 0, .int 0, .int 0, .ref (a + 2), .ref (a + 3), .ref (a + 4), .ref (a + 5), .ref (a + 6), .ref (a + 7)], cI 112 (fun _ => 0), cI 56 (fun _ => 0), cI 56 (fun _ => 0), cI 56 (fun _ => 0), cI 56 (fun _ => 0), cI 56 (fun _ => 0), cI 56 (fun _ => 0), cI 56 (fun _ => 0), cI 56 (fun _ => 0), cI 56 (fun _ => 0), cI 112 (fun _ => 0), cO 2 [.int 0, .int 0, .ref (a + 14), .ref (a + 15), .ref (a + 16), .ref (a + 17), .ref (a + 18), .ref (a + 19)], cI 56 (fun _ => 0), cI 56 (fun _ => 0), cI 56 (fun _ => 0), cI 56 (fun _ => 0), cI 56 (fun _ => 0), cI 56 (fun _ => 0), cI 56 (fun _ => 0), cI 56 (fun _ => 0)] (n := 21) rfl rfl) ?_
  refine r_putfRF (pc := 79) fl_X0_44 ⟨_, _, rfl⟩ dX0_init_79 (lget0 rfl) (Nat.le_of_ble_eq_true rfl) (fun _ => ⟨rfl, rfl⟩) rfl ?_
  refine G_M (lset_set0 [cO 0 [.ref (a + 1), .int 0, .int 0, .int 0, .int 0, .ref (a + 8), .ref (a + 9), .ref (a + 10), .ref (a + 11), .ref (a + 12), .ref (a + 13), .ref (a + 20), .ref (a + 21)], cO 4 [.int 0, .int 0, .int 0, .ref (a + 2), .ref (a + 3), .ref (a + 4), .ref (a + 5), .ref (a + 6), .ref (a + 7)], cI 112 (fun _ => 0), cI 56 (fun _ => 0), cI 56 (fun _ => 0), cI 56 (fun _ => 0), cI 56 (fun _ => 0), cI 56 (fun _ => 0), cI 56 (fun _ => 0), cI 56 (fun _ => 0), cI 56 (fun _ => 0), cI 56 (fun _ => 0), cI 112 (fun _ => 0), cO 2 [.int 0, .int 0, .ref (a + 14), .ref (a + 15), .ref (a + 16), .ref (a + 17), .ref (a + 18), .ref (a + 19)], cI 56 (fun _ => 0), cI 56 (fun _ => 0), cI 56 (fun _ => 0), cI 56 (fun _ => 0), cI 56 (fun _ => 0), cI 56 (fun _ => 0), cI 56 (fun _ => 0), cI 56 (fun _ => 0)] (Nat.le_of_ble_eq_true rfl) rfl) ?_
  exact p_return (pc := 82) false rfl rfl dX0_init_82 (by decide) (by decide) (Or.inr rfl) ⟨rfl, rfl⟩
theorem s_X6_init {M : Mem} {a : Nat} {f : Nat → Nat} (h : M a = some (cO 5 df_X6)) : SpecA mX6_init 2 1 120 (a + 1) [.ref a] M (tP none (fun Mf => TXT Mf a 0 f ∧ ∀ j, j < a → Mf j = M j)) := by
  refine SpecA_of [some (.ref a)] (by decide) (Nat.le_of_ble_eq_true rfl) rfl (fun h500 => ?_)
  refine G_M (lself h) ?_
  refine r_aload0 (pc := 0) dX6_init_0 ?_
  refine r_objInit (pc := 1) (tG 243 (by decide +kernel) (by decide +kernel)) (tG 45 (by decide +kernel) (by decide +kernel)) (tG 46 (by decide +kernel) (by decide +kernel)) dX6_init_1 (by decide) (Nat.le_of_ble_eq_true rfl) ?_
  refine r_aload0 (pc := 4) dX6_init_4 ?_
  refine n_bipush (pc := 5) 120 (by decide) dX6_init_5 ?_
  refine r_newC (pc := 7) (a + 1) (by omega) (by omega) (by decide) dX6_init_7 (by decide) (by decide) ?_
  refine G_M (lset_push [cO 5 df_X6, cC 120 (fun _ => 0)] (n := 1) rfl rfl) ?_
  refine r_putfRF (pc := 9) fl_X6_9 ⟨_, _, rfl⟩ dX6_init_9 (lget0 rfl) (Nat.le_of_ble_eq_true rfl) (fun _ => ⟨rfl, rfl⟩) rfl ?_
  refine G_M (lset_set0 [cO 5 [.ref (a + 1), .int 0], cC 120 (fun _ => 0)] (Nat.le_of_ble_eq_true rfl) rfl) ?_
  exact p_return (pc := 12) false rfl rfl dX6_init_12 (by decide) (by decide) (Or.inr rfl) ⟨rfl, ⟨Nat.zero_le _, fun i hi => absurd hi (Nat.not_lt_zero _), _, lget0 rfl, lget rfl, fun i hi => absurd hi (Nat.not_lt_zero _)⟩, fun j hj => lset_out (Or.inl hj)⟩

/-- the reference's text: n signs f -/
def TXm (S : BS) (n : Nat) (f : Nat → Nat) : Prop := n ≤ 120 ∧ (∀ i, i < n → f i < 65536) ∧ S.1 1 = nI n ∧ ∀ i, i < n → S.2 0 i = nI (f i)
theorem TXm.spot {S : BS} {n : Nat} {f : Nat → Nat} (h : TXm S n f) (v : Int32) : TXm (ii S 6 v) n f := h
theorem TXm.row {S : BS} {n : Nat} {f : Nat → Nat} (h : TXm S n f) {d : Nat} (hd : d ≠ 0) (g : Nat → Int32) : TXm (ia S d g) n f := ⟨h.1, h.2.1, h.2.2.1, fun i hi => by rw [ia_ne (Ne.symm hd)]; exact h.2.2.2 i hi⟩
theorem ii_self {S : BS} {j : Nat} {v : Int32} (h : S.1 j = v) : ii S j v = S := by
  unfold ii
  refine Prod.ext (funext (fun i => ?_)) rfl
  show (if i = j then v else S.1 i) = S.1 i
  by_cases e : i = j
  · rw [if_pos e, e, h]
  · rw [if_neg e]
theorem inL_9 {g : Int} (h1 : -2147483648 ≤ g) (h2 : g < 2147483648) : (decide ((0 : Int64) ≤ (iI g).toInt64) && decide ((iI g).toInt64 ≤ 9)) = decide (0 ≤ g ∧ g ≤ 9) := by
  have e1 : decide ((iI g).toInt64 ≤ 9) = decide (g ≤ 9) := by
    rw [decide_eq_decide, Int64.le_iff_toInt_le, Int32.toInt_toInt64, iI_toInt h1 h2]; rfl
  rw [inL_0, iI_toInt h1 h2, e1]
  by_cases a : 0 ≤ g <;> by_cases c : g ≤ 9 <;> simp [a, c]
/-- a digit suits -/
def okd (n : Nat) (f : Nat → Nat) (p v u lo hi : Nat) : Prop := 0 ≤ dgT n f p ∧ dgT n f p ≤ 9 ∧ v + dg n f p * u ≤ hi ∧ lo ≤ v + dg n f p * u + u - 1
section RFIG
variable {M : Mem} {b : Nat} {S : BS}
set_option maxRecDepth 20000 in
theorem fig_step {oc : TG} {n : Nat} {f : Nat → Nat} (hT : TXm S n f) {p a g lo hi v u : Nat} (h6 : S.1 6 = nI p) (hp : p ≤ 200) (ha : a ≤ 1000) (hlo : lo ≤ 1000) (hhi : hi ≤ 1000) (hv : v ≤ 1000) (hu : 0 < u) (hu2 : u ≤ 10) {x7 x8 : Option Value} (n7 : nc x7 = true)
    (kok : ∀ y7 y8, nc y7 = true → okd n f p v u lo hi → G mX8_figures 2 (.inl false) 0 0 oc none 0 0 16 [some (.ref b), some (.int (nI a)), some (.int (nI g)), some (.int (nI lo)), some (.int (nI hi)), some (.int (nI (v + dg n f p * u))), some (.int (nI (u / 10))), y7, y8] [] (kset M b (ii S 6 (nI (p + 1)))))
    (kno : ∀ y7 y8, ¬ okd n f p v u lo hi → G mX8_figures 2 (.inl false) 0 0 oc none 0 0 97 [some (.ref b), some (.int (nI a)), some (.int (nI g)), some (.int (nI lo)), some (.int (nI hi)), some (.int (nI v)), some (.int (nI u)), y7, y8] [.int (-1)] (kset M b S)) :
    G mX8_figures 2 (.inl false) 0 0 oc none 0 0 16 [some (.ref b), some (.int (nI a)), some (.int (nI g)), some (.int (nI lo)), some (.int (nI hi)), some (.int (nI v)), some (.int (nI u)), x7, x8] [] (kset M b S) := by
  obtain ⟨t1, t2, t3, t4⟩ := hT
  refine r_iload6 (pc := 16) dX8_figures_16 ?_
  refine n_if_le (pc := 18) 122 (by decide) dX8_figures_18 (by omega) (fun h9 => absurd h9 (by omega)) (fun _ => ?_)
  refine r_iload1 (pc := 21) dX8_figures_21 ?_
  refine r_iconst_m1 (pc := 22) dX8_figures_22 ?_
  refine r_icmp_eq (pc := 23) 122 (by decide) dX8_figures_23 (fun h9 => absurd h9 (nI_ne_m1 (by omega))) (fun _ => ?_)
  have mid : ∀ (dm : Int), -1000 ≤ dm → dm ≤ 100000 → ((0 ≤ dm ∧ dm ≤ 9) → dm = dgT n f p) → ((0 ≤ dgT n f p ∧ dgT n f p ≤ 9) → 0 ≤ dm ∧ dm ≤ 9) →
    G mX8_figures 2 (.inl false) 0 0 oc none 0 0 53 [some (.ref b), some (.int (nI a)), some (.int (nI g)), some (.int (nI lo)), some (.int (nI hi)), some (.int (nI v)), some (.int (nI u)), x7, x8] [.int (iI dm)] (kset M b S)
    := by
    intro dm d1 d2 d3 d4
    refine r_istore7 (pc := 53) dX8_figures_53 rfl ?_
    refine r_iload5 (pc := 55) dX8_figures_55 ?_
    refine r_iload7 (pc := 57) dX8_figures_57 ?_
    refine r_iload6 (pc := 59) dX8_figures_59 ?_
    refine r_imul (pc := 61) dX8_figures_61 ?_
    refine r_iadd (pc := 62) dX8_figures_62 ?_
    rw [show nI v + iI dm * nI u = iI ((v : Int) + dm * (u : Int)) by rw [iI_nat, iI_nat, iI_mul, iI_add]]
    refine r_istore8 (pc := 63) dX8_figures_63 rfl ?_
    refine r_iload7 (pc := 65) dX8_figures_65 ?_
    refine r_i2l (pc := 67) dX8_figures_67 ?_
    refine r_lconst_0 (pc := 68) dX8_figures_68 ?_
    refine r_ldc2 (v := (9)) (pc := 69) (tG 1139 (by decide +kernel) (by decide +kernel)) dX8_figures_69 ?_
    refine r_callS3i (pc := 72) lk_X8_50 dX8_figures_72 s8_in (by decide) (Nat.le_of_ble_eq_true rfl) ⟨Nat.zero_le _, Nat.zero_le _⟩ ?_
    rw [inL_9 (by omega) (by omega)]
    have no2 : ¬ okd n f p v u lo hi → ∀ y7 y8,
      G mX8_figures 2 (.inl false) 0 0 oc none 0 0 96 [some (.ref b), some (.int (nI a)), some (.int (nI g)), some (.int (nI lo)), some (.int (nI hi)), some (.int (nI v)), some (.int (nI u)), y7, y8] [] (kset M b S)
      := by
      intro hn y7 y8
      refine r_iconst_m1 (pc := 96) dX8_figures_96 ?_
      exact kno y7 y8 hn
    refine b_if_eq (pc := 75) 96 (by decide) dX8_figures_75 (fun h9 => no2 (fun q => ?_) _ _) (fun h9 => ?_)
    · have := of_decide_eq_false h9
      exact this (d4 ⟨q.1, q.2.1⟩)
    · have h8 := of_decide_eq_true h9
      have e := d3 h8
      obtain ⟨k, rfl⟩ := Int.eq_ofNat_of_zero_le h8.1
      have ek : dg n f p = k := by unfold dg; rw [← e]; rfl
      have hku : k * u ≤ 9 * 10 := Nat.mul_le_mul (by omega) hu2
      rw [show ((v : Int) + (k : Int) * (u : Int)) = ((v + k * u : Nat) : Int) by rw [Int.natCast_add, Int.natCast_mul], ← iI_nat]
      refine r_iload8 (pc := 78) dX8_figures_78 ?_
      refine r_iload4 (pc := 80) dX8_figures_80 ?_
      refine n_icmp_gt (pc := 82) 96 (by decide) dX8_figures_82 (by omega) (by omega) (fun h7 => no2 (fun q => ?_) _ _) (fun h7 => ?_)
      · have q3 := q.2.2.1
        rw [ek] at q3
        omega
      · refine r_iload8 (pc := 85) dX8_figures_85 ?_
        refine r_iload6 (pc := 87) dX8_figures_87 ?_
        first | refine n_iadd (pc := 89) dX8_figures_89 ?_ | refine z_iadd (pc := 89) dX8_figures_89 ?_ | refine r_iadd (pc := 89) dX8_figures_89 ?_
        refine n_iconst_1 (pc := 90) dX8_figures_90 ?_
        refine n_isub (pc := 91) dX8_figures_91 (by omega) ?_
        refine r_iload3 (pc := 92) dX8_figures_92 ?_
        refine n_icmp_ge (pc := 93) 98 (by decide) dX8_figures_93 (by omega) (by omega) (fun h5 => ?_) (fun h5 => no2 (fun q => ?_) _ _)
        · have hok : okd n f p v u lo hi := ⟨by omega, by omega, by rw [ek]; exact h7, by rw [ek]; exact h5⟩
          refine r_iload8 (pc := 98) dX8_figures_98 ?_
          refine r_istore5 (pc := 100) dX8_figures_100 rfl ?_
          refine r_aload0 (pc := 102) dX8_figures_102 ?_
          refine r_dup (pc := 103) dX8_figures_103 rfl ?_
          refine r_getf (pc := 104) fl_X8_171 dX8_figures_104 (kget0 rfl) rfl ?_
          rw [h6]
          refine n_iconst_1 (pc := 107) dX8_figures_107 ?_
          first | refine n_iadd (pc := 108) dX8_figures_108 ?_ | refine z_iadd (pc := 108) dX8_figures_108 ?_ | refine r_iadd (pc := 108) dX8_figures_108 ?_
          refine r_putfI (pc := 109) fl_X8_171 dX8_figures_109 (kget0 rfl) (Nat.le_of_ble_eq_true rfl) ?_
          refine G_M bii_X8_13 ?_
          refine r_iload6 (pc := 112) dX8_figures_112 ?_
          refine n_bipush (pc := 114) 10 (by decide) dX8_figures_114 ?_
          refine n_idiv (pc := 116) dX8_figures_116 (by omega) (by omega) (by omega) ?_
          refine r_istore6 (pc := 117) dX8_figures_117 rfl ?_
          rw [← ek]
          refine r_goto (pc := 119) 16 (by decide) dX8_figures_119 ?_
          exact kok _ _ rfl hok
        · have q3 := q.2.2.2
          rw [ek] at q3
          omega
  refine r_aload0 (pc := 26) dX8_figures_26 ?_
  refine r_getf (pc := 27) fl_X8_171 dX8_figures_27 (kget0 rfl) rfl ?_
  rw [h6]
  refine r_aload0 (pc := 30) dX8_figures_30 ?_
  refine r_getf (pc := 31) fl_X8_164 dX8_figures_31 (kget0 rfl) rfl ?_
  rw [t3]
  refine n_icmp_ge (pc := 34) 52 (by decide) dX8_figures_34 (by omega) (by omega) (fun h9 => ?_) (fun h9 => ?_)
  · refine r_iconst_m1 (pc := 52) dX8_figures_52 ?_
    rw [show (-1 : Int32) = iI (-1) from iI_m1]
    have ed : dgT n f p = -49 := by unfold dgT chT; rw [if_neg (by omega)]; rfl
    exact mid (-1) (by omega) (by omega) (fun q => absurd q.1 (by omega)) (fun q => absurd q.1 (by omega))
  · have hf := t2 p h9
    have ed : dgT n f p = (f p : Int) - 48 := by unfold dgT chT; rw [if_pos h9]
    refine r_aload0 (pc := 37) dX8_figures_37 ?_
    refine r_getf (pc := 38) fl_X8_7 dX8_figures_38 (kget0 rfl) rfl ?_
    refine r_aload0 (pc := 41) dX8_figures_41 ?_
    refine r_getf (pc := 42) fl_X8_171 dX8_figures_42 (kget0 rfl) rfl ?_
    rw [h6]
    refine n_iald (pc := 45) dX8_figures_45 (kget rfl) (by omega) (by decide) (t4 p h9) ?_
    refine n_bipush (pc := 46) 48 (by decide) dX8_figures_46 ?_
    first | refine n_isubI (pc := 48) dX8_figures_48 ?_ | refine z_isub (pc := 48) dX8_figures_48 ?_ | refine r_isub (pc := 48) dX8_figures_48 ?_
    refine r_goto (pc := 49) 53 (by decide) dX8_figures_49 ?_
    exact mid _ (by omega) (by omega) (fun _ => ed.symm) (fun q => by omega)
theorem fig_pre {oc : TG} {a g lo hi : Nat} (u : Nat) (hg : g ≤ 2) (hu : u = if g = 2 then 10 else 1) (k : G mX8_figures 2 (.inl false) 0 0 oc none 0 0 16 [some (.ref b), some (.int (nI a)), some (.int (nI g)), some (.int (nI lo)), some (.int (nI hi)), some (.int (nI 0)), some (.int (nI u)), none, none] [] (kset M b S)) :
    G mX8_figures 2 (.inl false) 0 0 oc none 0 0 0 [some (.ref b), some (.int (nI a)), some (.int (nI g)), some (.int (nI lo)), some (.int (nI hi)), none, none, none, none] [] (kset M b S) := by
  refine n_iconst_0 (pc := 0) dX8_figures_0 ?_
  refine r_istore5 (pc := 1) dX8_figures_1 rfl ?_
  refine r_iload2 (pc := 3) dX8_figures_3 ?_
  refine n_iconst_2 (pc := 4) dX8_figures_4 ?_
  refine n_icmp_ne (pc := 5) 13 (by decide) dX8_figures_5 (by omega) (by omega) (fun h9 => ?_) (fun h9 => ?_)
  · rw [if_neg h9] at hu
    subst hu
    refine n_iconst_1 (pc := 13) dX8_figures_13 ?_
    refine r_istore6 (pc := 14) dX8_figures_14 rfl ?_
    exact k
  · rw [if_pos h9] at hu
    subst hu
    refine n_bipush (pc := 8) 10 (by decide) dX8_figures_8 ?_
    refine r_goto (pc := 10) 14 (by decide) dX8_figures_10 ?_
    refine r_istore6 (pc := 14) dX8_figures_14 rfl ?_
    exact k
theorem fig_end {v : Nat} {S' : BS} {r : Int32} {a g lo hi : Nat} (ha : a ≤ 1000) {x7 x8 : Option Value} (hr : r = nI v) :
    G mX8_figures 2 (.inl false) 0 0 (dT (some (.int r)) (kset M b S')) none 0 0 16 [some (.ref b), some (.int (nI a)), some (.int (nI g)), some (.int (nI lo)), some (.int (nI hi)), some (.int (nI v)), some (.int (nI 0)), x7, x8] [] (kset M b S') := by
  refine r_iload6 (pc := 16) dX8_figures_16 ?_
  refine n_if_le (pc := 18) 122 (by decide) dX8_figures_18 (by omega) (fun _ => ?_) (fun h9 => absurd h9 (by omega))
  refine r_iload1 (pc := 122) dX8_figures_122 ?_
  refine r_iconst_m1 (pc := 123) dX8_figures_123 ?_
  refine r_icmp_ne (pc := 124) 131 (by decide) dX8_figures_124 (fun _ => ?_) (fun h9 => absurd h9 (nI_ne_m1 (by omega)))
  refine r_iload5 (pc := 131) dX8_figures_131 ?_
  exact r_ireturn (pc := 133) false rfl rfl rfl dX8_figures_133 (Nat.zero_le _) (Nat.zero_le _) (Or.inl rfl) rfl (by rw [hr]) rfl
theorem s8_figNo {g lo hi : Nat} (hg : g ≤ 2) : Spec mX8_figures 2 0 0 [.ref b, .int (-1), .int (nI g), .int (nI lo), .int (nI hi)] (kset M b S) (some (.int (-1))) (kset M b S) := by
  refine Spec_of [some (.ref b), some (.int (-1)), some (.int (nI g)), some (.int (nI lo)), some (.int (nI hi)), none, none, none, none] (by decide) (Nat.le_of_ble_eq_true rfl) rfl ?_
  have fin : ∀ u, 0 < u → u < 20 →
    G mX8_figures 2 (.inl false) 0 0 (dT (some (.int (-1))) (kset M b S)) none 0 0 16 [some (.ref b), some (.int (-1)), some (.int (nI g)), some (.int (nI lo)), some (.int (nI hi)), some (.int (nI 0)), some (.int (nI u)), none, none] [] (kset M b S)
    := by
    intro u hu hu2
    refine r_iload6 (pc := 16) dX8_figures_16 ?_
    refine n_if_le (pc := 18) 122 (by decide) dX8_figures_18 (by omega) (fun h9 => absurd h9 (by omega)) (fun _ => ?_)
    refine r_iload1 (pc := 21) dX8_figures_21 ?_
    refine r_iconst_m1 (pc := 22) dX8_figures_22 ?_
    refine r_icmp_eq (pc := 23) 122 (by decide) dX8_figures_23 (fun _ => ?_) (fun h9 => absurd rfl h9)
    refine r_iload1 (pc := 122) dX8_figures_122 ?_
    refine r_iconst_m1 (pc := 123) dX8_figures_123 ?_
    refine r_icmp_ne (pc := 124) 131 (by decide) dX8_figures_124 (fun h9 => absurd rfl h9) (fun _ => ?_)
    refine r_iconst_m1 (pc := 127) dX8_figures_127 ?_
    refine r_goto (pc := 128) 133 (by decide) dX8_figures_128 ?_
    exact r_ireturn (pc := 133) false rfl rfl rfl dX8_figures_133 (Nat.zero_le _) (Nat.zero_le _) (Or.inl rfl) rfl rfl rfl
  refine n_iconst_0 (pc := 0) dX8_figures_0 ?_
  refine r_istore5 (pc := 1) dX8_figures_1 rfl ?_
  refine r_iload2 (pc := 3) dX8_figures_3 ?_
  refine n_iconst_2 (pc := 4) dX8_figures_4 ?_
  refine n_icmp_ne (pc := 5) 13 (by decide) dX8_figures_5 (by omega) (by omega) (fun h9 => ?_) (fun h9 => ?_)
  · refine n_iconst_1 (pc := 13) dX8_figures_13 ?_
    refine r_istore6 (pc := 14) dX8_figures_14 rfl ?_
    exact fin 1 (by omega) (by omega)
  · refine n_bipush (pc := 8) 10 (by decide) dX8_figures_8 ?_
    refine r_goto (pc := 10) 14 (by decide) dX8_figures_10 ?_
    refine r_istore6 (pc := 14) dX8_figures_14 rfl ?_
    exact fin 10 (by omega) (by omega)
theorem okd_one {c lo hi n p : Nat} {f : Nat → Nat} (hc : (c, lo, hi) ∈ oneD) : okd n f p 0 1 lo hi ↔ fw n f [c] p = none := by
  have e : fw n f [c] p = if suZ c (dgT n f p) (dg n f (p - 1)) then none else some p := rfl
  have e2 : suZ c (dgT n f p) (dg n f (p - 1)) = (decide (0 ≤ dgT n f p ∧ dgT n f p ≤ 9) && decide (lo ≤ dg n f p ∧ dg n f p ≤ hi)) := by
    unfold suZ
    rw [one_su hc]; rfl
  rw [e, e2]
  unfold okd
  constructor
  · rintro ⟨h1, h2, h3, h4⟩
    rw [decide_eq_true (show 0 ≤ dgT n f p ∧ dgT n f p ≤ 9 from ⟨h1, h2⟩), decide_eq_true (show lo ≤ dg n f p ∧ dg n f p ≤ hi by omega)]; rfl
  · intro h
    by_cases a : 0 ≤ dgT n f p ∧ dgT n f p ≤ 9 <;> by_cases c : lo ≤ dg n f p ∧ dg n f p ≤ hi <;> simp [a, c] at h
    exact ⟨a.1, a.2, by omega, by omega⟩
theorem s8_fig1 {n : Nat} {f : Nat → Nat} (hT : TXm S n f) {c lo hi p a : Nat} (hc : (c, lo, hi) ∈ oneD) (h6 : S.1 6 = nI p) (hp : p ≤ 150) (ha : a ≤ 1000) (hw : fw n f [c] p = none) : Spec mX8_figures 2 0 0 [.ref b, .int (nI a), .int (nI 1), .int (nI lo), .int (nI hi)] (kset M b S) (some (.int (nI (dg n f p)))) (kset M b (ii S 6 (nI (p + 1)))) := by
  have hb1 : lo ≤ 1000 ∧ hi ≤ 1000 := by
    simp only [oneD, List.mem_cons, List.not_mem_nil, or_false, Prod.mk.injEq] at hc
    omega
  refine Spec_of [some (.ref b), some (.int (nI a)), some (.int (nI 1)), some (.int (nI lo)), some (.int (nI hi)), none, none, none, none] (by decide) (Nat.le_of_ble_eq_true rfl) rfl ?_
  refine fig_pre 1 (by omega) rfl ?_
  refine fig_step hT h6 (by omega) ha hb1.1 hb1.2 (by omega) (by decide) (by decide) rfl (fun y7 y8 n7 hok => ?_) (fun y7 y8 hn => absurd ((okd_one hc).mpr hw) hn)
  exact fig_end ha (by rw [Nat.zero_add, Nat.mul_one])
theorem s8_fig1N {n : Nat} {f : Nat → Nat} (hT : TXm S n f) {c lo hi p a w : Nat} (hc : (c, lo, hi) ∈ oneD) (h6 : S.1 6 = nI p) (hp : p ≤ 150) (ha : a ≤ 1000) (hw : fw n f [c] p = some w) : Spec mX8_figures 2 0 0 [.ref b, .int (nI a), .int (nI 1), .int (nI lo), .int (nI hi)] (kset M b S) (some (.int (-1))) (kset M b (ii S 6 (nI w))) := by
  have hb1 : lo ≤ 1000 ∧ hi ≤ 1000 := by
    simp only [oneD, List.mem_cons, List.not_mem_nil, or_false, Prod.mk.injEq] at hc
    omega
  have ew : w = p := by
    have e : fw n f [c] p = if suZ c (dgT n f p) (dg n f (p - 1)) then none else some p := rfl
    rw [e] at hw
    split at hw
    · cases hw
    · cases hw; rfl
  subst ew
  refine Spec_of [some (.ref b), some (.int (nI a)), some (.int (nI 1)), some (.int (nI lo)), some (.int (nI hi)), none, none, none, none] (by decide) (Nat.le_of_ble_eq_true rfl) rfl ?_
  refine fig_pre 1 (by omega) rfl ?_
  refine fig_step hT h6 (by omega) ha hb1.1 hb1.2 (by omega) (by decide) (by decide) rfl (fun y7 y8 n7 hok => ?_) (fun y7 y8 hn => ?_)
  · rw [(okd_one hc).mp hok] at hw; cases hw
  · exact r_ireturn (pc := 97) false rfl rfl rfl dX8_figures_97 (Nat.zero_le _) (Nat.zero_le _) (Or.inl rfl) rfl rfl (by rw [ii_self h6])
theorem okd_two {c1 c2 lo hi n p : Nat} {f : Nat → Nat} (hc : (c1, c2, lo, hi) ∈ twoD) : (okd n f p 0 10 lo hi ↔ suZ c1 (dgT n f p) (dg n f (p - 1)) = true) ∧ (okd n f p 0 10 lo hi → (okd n f (p + 1) (dg n f p * 10) 1 lo hi ↔ suZ c2 (dgT n f (p + 1)) (dg n f p) = true)) := by
  have key : ∀ (c : Nat) (i v : Nat), suZ c (dgT n f i) v = (decide (0 ≤ dgT n f i ∧ dgT n f i ≤ 9) && sutZ c (dg n f i) v) := fun c i v => rfl
  have dle : ∀ i, 0 ≤ dgT n f i ∧ dgT n f i ≤ 9 → dg n f i ≤ 9 := fun i h => by unfold dg; omega
  have first : okd n f p 0 10 lo hi ↔ suZ c1 (dgT n f p) (dg n f (p - 1)) = true := by
    rw [key]
    constructor
    · rintro ⟨h1, h2, h3, h4⟩
      rw [decide_eq_true (show 0 ≤ dgT n f p ∧ dgT n f p ≤ 9 from ⟨h1, h2⟩), (two_su hc (dg n f p) (dg n f (p - 1)) 0 (dle p ⟨h1, h2⟩) (by omega)).1, decide_eq_true (by omega)]; rfl
    · intro h
      rw [Bool.and_eq_true] at h
      have h1 := of_decide_eq_true h.1
      have h2 := h.2
      rw [(two_su hc (dg n f p) (dg n f (p - 1)) 0 (dle p h1) (by omega)).1] at h2
      have h3 := of_decide_eq_true h2
      exact ⟨h1.1, h1.2, by omega, by omega⟩
  refine ⟨first, fun hok => ?_⟩
  have hs := first.mp hok
  rw [key, Bool.and_eq_true] at hs
  have hd1 := dle p (of_decide_eq_true hs.1)
  rw [key]
  constructor
  · rintro ⟨h1, h2, h3, h4⟩
    rw [decide_eq_true (show 0 ≤ dgT n f (p + 1) ∧ dgT n f (p + 1) ≤ 9 from ⟨h1, h2⟩), (two_su hc (dg n f p) (dg n f (p - 1)) (dg n f (p + 1)) hd1 (dle _ ⟨h1, h2⟩)).2 hs.2, decide_eq_true (by omega)]; rfl
  · intro h
    rw [Bool.and_eq_true] at h
    have h1 := of_decide_eq_true h.1
    have h2 := h.2
    rw [(two_su hc (dg n f p) (dg n f (p - 1)) (dg n f (p + 1)) hd1 (dle _ h1)).2 hs.2] at h2
    have h3 := of_decide_eq_true h2
    exact ⟨h1.1, h1.2, by omega, by omega⟩
theorem fw_two {c1 c2 n p : Nat} {f : Nat → Nat} : fw n f [c1, c2] p = if suZ c1 (dgT n f p) (dg n f (p - 1)) then (if suZ c2 (dgT n f (p + 1)) (dg n f p) then none else some (p + 1)) else some p := rfl
theorem s8_fig2 {n : Nat} {f : Nat → Nat} (hT : TXm S n f) {c1 c2 lo hi p a : Nat} (hc : (c1, c2, lo, hi) ∈ twoD) (h6 : S.1 6 = nI p) (hp : p ≤ 150) (ha : a ≤ 1000) (hw : fw n f [c1, c2] p = none) : Spec mX8_figures 2 0 0 [.ref b, .int (nI a), .int (nI 2), .int (nI lo), .int (nI hi)] (kset M b S) (some (.int (nI (tw (dg n f) p)))) (kset M b (ii S 6 (nI (p + 2)))) := by
  have hb1 : lo ≤ 1000 ∧ hi ≤ 1000 := by
    simp only [twoD, List.mem_cons, List.not_mem_nil, or_false, Prod.mk.injEq] at hc
    omega
  rw [fw_two] at hw
  have q1 : suZ c1 (dgT n f p) (dg n f (p - 1)) = true := by
    cases h : suZ c1 (dgT n f p) (dg n f (p - 1)) with
    | true => rfl
    | false => rw [h] at hw; cases hw
  rw [q1] at hw
  have q2 : suZ c2 (dgT n f (p + 1)) (dg n f p) = true := by
    cases h : suZ c2 (dgT n f (p + 1)) (dg n f p) with
    | true => rfl
    | false => rw [h] at hw; cases hw
  obtain ⟨o1, o2⟩ := okd_two (n := n) (p := p) (f := f) hc
  have k1 := o1.mpr q1
  have k2 := (o2 k1).mpr q2
  have k3 := k1.2.2.1
  refine Spec_of [some (.ref b), some (.int (nI a)), some (.int (nI 2)), some (.int (nI lo)), some (.int (nI hi)), none, none, none, none] (by decide) (Nat.le_of_ble_eq_true rfl) rfl ?_
  refine fig_pre 10 (by omega) rfl ?_
  refine fig_step hT h6 (by omega) ha hb1.1 hb1.2 (by omega) (by decide) (by decide) rfl (fun y7 y8 n7 hok => ?_) (fun y7 y8 hn => absurd k1 hn)
  rw [Nat.zero_add]
  refine fig_step (hT.spot (nI (p + 1))) (p := p + 1) rfl (by omega) ha hb1.1 hb1.2 (by omega) (by decide) (by decide) n7 (fun y7 y8 n7 hok => ?_) (fun y7 y8 hn => absurd k2 hn)
  rw [ii_ii]
  exact fig_end ha (by unfold tw; congr 1; omega)
theorem s8_fig2N {n : Nat} {f : Nat → Nat} (hT : TXm S n f) {c1 c2 lo hi p a w : Nat} (hc : (c1, c2, lo, hi) ∈ twoD) (h6 : S.1 6 = nI p) (hp : p ≤ 150) (ha : a ≤ 1000) (hw : fw n f [c1, c2] p = some w) : Spec mX8_figures 2 0 0 [.ref b, .int (nI a), .int (nI 2), .int (nI lo), .int (nI hi)] (kset M b S) (some (.int (-1))) (kset M b (ii S 6 (nI w))) := by
  have hb1 : lo ≤ 1000 ∧ hi ≤ 1000 := by
    simp only [twoD, List.mem_cons, List.not_mem_nil, or_false, Prod.mk.injEq] at hc
    omega
  rw [fw_two] at hw
  obtain ⟨o1, o2⟩ := okd_two (n := n) (p := p) (f := f) hc
  refine Spec_of [some (.ref b), some (.int (nI a)), some (.int (nI 2)), some (.int (nI lo)), some (.int (nI hi)), none, none, none, none] (by decide) (Nat.le_of_ble_eq_true rfl) rfl ?_
  refine fig_pre 10 (by omega) rfl ?_
  refine fig_step hT h6 (by omega) ha hb1.1 hb1.2 (by omega) (by decide) (by decide) rfl (fun y7 y8 n7 hok => ?_) (fun y7 y8 hn => ?_)
  · have k3 := hok.2.2.1
    rw [o1.mp hok] at hw
    have hw : (if suZ c2 (dgT n f (p + 1)) (dg n f p) = true then none else some (p + 1)) = some w := hw
    rw [Nat.zero_add]
    refine fig_step (hT.spot (nI (p + 1))) (p := p + 1) rfl (by omega) ha hb1.1 hb1.2 (by omega) (by decide) (by decide) n7 (fun y7 y8 n7 hok2 => ?_) (fun y7 y8 hn => ?_)
    · rw [if_pos ((o2 hok).mp hok2)] at hw; cases hw
    · have ew : w = p + 1 := by
        split at hw
        · cases hw
        · cases hw; rfl
      subst ew
      exact r_ireturn (pc := 97) false rfl rfl rfl dX8_figures_97 (Nat.zero_le _) (Nat.zero_le _) (Or.inl rfl) rfl rfl rfl
  · have ew : w = p := by
      rw [if_neg (fun q => hn (o1.mpr q))] at hw
      cases hw; rfl
    subst ew
    exact r_ireturn (pc := 97) false rfl rfl rfl dX8_figures_97 (Nat.zero_le _) (Nat.zero_le _) (Or.inl rfl) rfl rfl (by rw [ii_self h6])
end RFIG

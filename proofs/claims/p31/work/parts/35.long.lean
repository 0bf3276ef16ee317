def bgL : Nat → Int64
  | 0 => 1
  | n + 1 => bgL n * 1000000
section LONG
variable {M : Mem}
theorem s_behindGroups {n : Nat} (hn : n < 2147483648) : Spec mX7_behindGroups 1 0 0 [.int (nI n)] M (some (.long (bgL n))) M := by
  refine Spec_of [some (.int (nI n)), none, none, none] (by decide) (Nat.le_of_ble_eq_true rfl) rfl ?_
  refine r_lconst_1 (pc := 0) dX7_behindGroups_0 ?_
  refine r_lstore1 (pc := 1) dX7_behindGroups_1 rfl ?_
  refine n_iconst_0 (pc := 2) dX7_behindGroups_2 ?_
  refine r_istore3 (pc := 3) dX7_behindGroups_3 rfl ?_
  refine up_to (N := n) (k := 0) (fun k => G mX7_behindGroups 1 (.inl false) 0 0 (dT (some (.long (bgL n))) M) none 0 0 4 [some (.int (nI n)), some (.long (bgL k)), none, some (.int (nI k))] [] (M)) ?_ (fun k hk ih => ?_) (Nat.zero_le _)
  · refine r_iload3 (pc := 4) dX7_behindGroups_4 ?_
    refine r_iload0 (pc := 5) dX7_behindGroups_5 ?_
    refine n_icmp_ge (pc := 6) 21 (by decide) dX7_behindGroups_6 (by omega) (by omega) (fun hc6 => ?_) (fun hc6 => absurd hc6 (by omega))
    refine r_lload1 (pc := 21) dX7_behindGroups_21 ?_
    exact p_lreturn (pc := 22) false rfl rfl dX7_behindGroups_22 (Nat.zero_le _) (Nat.zero_le _) (Or.inl rfl) ⟨rfl, rfl⟩
  · refine r_iload3 (pc := 4) dX7_behindGroups_4 ?_
    refine r_iload0 (pc := 5) dX7_behindGroups_5 ?_
    refine n_icmp_ge (pc := 6) 21 (by decide) dX7_behindGroups_6 (by omega) (by omega) (fun hc6 => absurd hc6 (by omega)) (fun hc6 => ?_)
    refine r_lload1 (pc := 9) dX7_behindGroups_9 ?_
    refine r_ldc2 (v := (1000000)) (pc := 10) (tG 985 (by decide +kernel) (by decide +kernel)) dX7_behindGroups_10 ?_
    refine r_lmul (pc := 13) dX7_behindGroups_13 ?_
    refine r_lstore1 (pc := 14) dX7_behindGroups_14 rfl ?_
    refine n_iinc3 (pc := 15) dX7_behindGroups_15 rfl ?_
    refine r_goto (pc := 18) 4 (by decide) dX7_behindGroups_18 ?_
    exact ih
end LONG
def lI (n : Nat) : Int64 := Int64.ofNat n
theorem lI_toInt {n : Nat} (h : n < 9223372036854775808) : (lI n).toInt = (n : Int) := by
  show (Int64.ofNat n).toInt = _
  rw [Int64.toInt_ofNat']
  show (n : Int).bmod 18446744073709551616 = n
  exact Int.bmod_eq_of_le (by omega) (by omega)
theorem lI_div {a b : Nat} (ha : a < 9223372036854775808) (h0 : 0 < b) (hb1 : b < 9223372036854775808) : lI a / lI b = lI (a / b) := by
  apply Int64.toInt_inj.mp
  have h1 : a / b < 9223372036854775808 := Nat.lt_of_le_of_lt (Nat.div_le_self a b) ha
  rw [Int64.toInt_div, lI_toInt ha, lI_toInt hb1, lI_toInt h1]
  show ((a : Int).tdiv b).bmod 18446744073709551616 = _
  rw [← Int.ofNat_tdiv]
  generalize a / b = c at h1 ⊢
  exact Int.bmod_eq_of_le (by omega) (by omega)
theorem lI_mul {a b : Nat} : lI a * lI b = lI (a * b) := by
  show Int64.ofNat a * Int64.ofNat b = Int64.ofNat (a * b)
  rw [Int64.ofNat_mul]
theorem lI_rem {a b : Nat} (ha : a < 9223372036854775808) (h0 : 0 < b) (hb1 : b < 9223372036854775808) : lI a - lI a / lI b * lI b = lI (a % b) := by
  rw [lI_div ha h0 hb1, lI_mul]
  have h1 : a / b * b ≤ a := Nat.div_mul_le_self a b
  have h2 : a - a / b * b = a % b := by
    have := Nat.div_add_mod a b
    rw [Nat.mul_comm] at this
    omega
  rw [← h2]
  show Int64.ofNat a - Int64.ofNat (a / b * b) = Int64.ofNat (a - a / b * b)
  rw [Int64.ofNat_sub _ _ h1]
theorem lI_int {a : Nat} : (lI a).toInt32 = nI a := by
  show (Int64.ofNat a).toInt32 = Int32.ofNat a
  rw [Int64.toInt32_ofNat']
theorem bgL_eq : bgL 0 = lI 1 ∧ bgL 1 = lI 1000000 ∧ bgL 2 = lI 1000000000000 ∧ bgL 3 = lI 1000000000000000000 := by decide +kernel
theorem bgL_lI {n : Nat} (h : n ≤ 3) : bgL n = lI (1000000 ^ n) := by
  have : n = 0 ∨ n = 1 ∨ n = 2 ∨ n = 3 := by omega
  rcases this with e | e | e | e <;> subst e <;> decide +kernel
theorem lI_of {s : Int64} (h : 0 ≤ s.toInt) : s = lI s.toInt.toNat := by
  have h2 := Int64.toInt_lt s
  apply Int64.toInt_inj.mp
  rw [lI_toInt (by omega)]
  omega

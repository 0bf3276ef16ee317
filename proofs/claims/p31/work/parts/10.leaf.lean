def sqd (a b : Nat) : Int := ((a : Int) - b) * ((a : Int) - b)
theorem sqd_eq (a b : Nat) : iI (((a : Int) - b) * ((a : Int) - b)) = iI (sqd a b) := rfl
theorem mul_le_of {x m : Int} (h1 : -m ≤ x) (h2 : x ≤ m) : 0 ≤ x * x ∧ x * x ≤ m * m := by
  refine ⟨?_, ?_⟩
  · rcases Int.le_total 0 x with h | h
    · exact Int.mul_nonneg h h
    · have := Int.mul_nonneg (show 0 ≤ -x by omega) (show 0 ≤ -x by omega)
      rwa [Int.neg_mul_neg] at this
  · rcases Int.le_total 0 x with h | h
    · exact Int.mul_le_mul h2 h2 h (by omega)
    · have := Int.mul_le_mul (show -x ≤ m by omega) (show -x ≤ m by omega) (show 0 ≤ -x by omega) (by omega)
      rwa [Int.neg_mul_neg] at this
theorem sqd_le {a b : Nat} (ha : a ≤ 99) (hb : b ≤ 99) : 0 ≤ sqd a b ∧ sqd a b ≤ 9801 := mul_le_of (m := 99) (by omega) (by omega)
set_option maxRecDepth 20000 in
theorem s_at {M : Mem} {a n k : Nat} {f : Nat → Int32} {v : Int32} (h : M a = some (cI n f)) (hk : k < n) (hn : n < 2147483648) (hv : f k = v) : Spec mX7_at 1 0 0 [.ref a, .int (nI k)] M (some (.int v)) M := by
  refine Spec_of [some (.ref a), some (.int (nI k))] (by decide) (Nat.le_of_ble_eq_true rfl) rfl ?_
  refine r_iload1 (pc := 0) dX7_at_0 ?_
  refine n_if_lt (pc := 1) 16 (by decide) dX7_at_1 (by omega) ?_
  refine r_iload1 (pc := 4) dX7_at_4 ?_
  refine r_aload0 (pc := 5) dX7_at_5 ?_
  refine r_alenI (pc := 6) dX7_at_6 h ?_
  refine n_icmp_ge (pc := 7) 16 (by decide) dX7_at_7 (by omega) (by omega) (fun hc7 => absurd hc7 (by omega)) (fun hc7 => ?_)
  refine r_aload0 (pc := 10) dX7_at_10 ?_
  refine r_iload1 (pc := 11) dX7_at_11 ?_
  refine n_iald (pc := 12) dX7_at_12 h hk hn hv ?_
  refine r_goto (pc := 13) 17 (by decide) dX7_at_13 ?_
  exact r_ireturn (pc := 17) false rfl rfl rfl dX7_at_17 (Nat.zero_le _) (Nat.zero_le _) (Or.inl rfl) rfl rfl rfl
set_option maxRecDepth 20000 in
theorem s_put {M : Mem} {a n k : Nat} {f : Nat → Int32} {v : Int32} (h : M a = some (cI n f)) (hk : k < n) (hn : n < 2147483648) : Spec mX7_put 1 0 0 [.ref a, .int (nI k), .int v] M none (mset M a (cI n (upd f k v))) := by
  refine Spec_of [some (.ref a), some (.int (nI k)), some (.int v)] (by decide) (Nat.le_of_ble_eq_true rfl) rfl ?_
  refine r_iload1 (pc := 0) dX7_put_0 ?_
  refine n_if_lt (pc := 1) 14 (by decide) dX7_put_1 (by omega) ?_
  refine r_iload1 (pc := 4) dX7_put_4 ?_
  refine r_aload0 (pc := 5) dX7_put_5 ?_
  refine r_alenI (pc := 6) dX7_put_6 h ?_
  refine n_icmp_ge (pc := 7) 14 (by decide) dX7_put_7 (by omega) (by omega) (fun hc7 => absurd hc7 (by omega)) (fun hc7 => ?_)
  refine r_aload0 (pc := 10) dX7_put_10 ?_
  refine r_iload1 (pc := 11) dX7_put_11 ?_
  refine r_iload2 (pc := 12) dX7_put_12 ?_
  refine n_iast (pc := 13) dX7_put_13 h hk hn ?_
  exact r_return (pc := 14) false rfl rfl dX7_put_14 (Nat.zero_le _) (Nat.zero_le _) (Or.inl rfl) rfl rfl
set_option maxRecDepth 20000 in
theorem s_exchange {M : Mem} {a n i j : Nat} {f : Nat → Int32} (h : M a = some (cI n f)) (hi : i < n) (hj : j < n) (hn : n < 2147483648) : Spec mX7_exchange 1 0 0 [.ref a, .int (nI i), .int (nI j)] M none (mset M a (cI n (upd (upd f i (f j)) j (f i)))) := by
  refine Spec_of [some (.ref a), some (.int (nI i)), some (.int (nI j)), none] (by decide) (Nat.le_of_ble_eq_true rfl) rfl ?_
  refine r_iload1 (pc := 0) dX7_exchange_0 ?_
  refine n_if_lt (pc := 1) 34 (by decide) dX7_exchange_1 (by omega) ?_
  refine r_iload1 (pc := 4) dX7_exchange_4 ?_
  refine r_aload0 (pc := 5) dX7_exchange_5 ?_
  refine r_alenI (pc := 6) dX7_exchange_6 h ?_
  refine n_icmp_ge (pc := 7) 34 (by decide) dX7_exchange_7 (by omega) (by omega) (fun hc7 => absurd hc7 (by omega)) (fun hc7 => ?_)
  refine r_iload2 (pc := 10) dX7_exchange_10 ?_
  refine n_if_lt (pc := 11) 34 (by decide) dX7_exchange_11 (by omega) ?_
  refine r_iload2 (pc := 14) dX7_exchange_14 ?_
  refine r_aload0 (pc := 15) dX7_exchange_15 ?_
  refine r_alenI (pc := 16) dX7_exchange_16 h ?_
  refine n_icmp_ge (pc := 17) 34 (by decide) dX7_exchange_17 (by omega) (by omega) (fun hc17 => absurd hc17 (by omega)) (fun hc17 => ?_)
  refine r_aload0 (pc := 20) dX7_exchange_20 ?_
  refine r_iload1 (pc := 21) dX7_exchange_21 ?_
  refine n_iald (pc := 22) dX7_exchange_22 h hi hn rfl ?_
  refine r_istore3 (pc := 23) dX7_exchange_23 rfl ?_
  refine r_aload0 (pc := 24) dX7_exchange_24 ?_
  refine r_iload1 (pc := 25) dX7_exchange_25 ?_
  refine r_aload0 (pc := 26) dX7_exchange_26 ?_
  refine r_iload2 (pc := 27) dX7_exchange_27 ?_
  refine n_iald (pc := 28) dX7_exchange_28 h hj hn rfl ?_
  refine n_iast (pc := 29) dX7_exchange_29 h hi hn ?_
  refine r_aload0 (pc := 30) dX7_exchange_30 ?_
  refine r_iload2 (pc := 31) dX7_exchange_31 ?_
  refine r_iload3 (pc := 32) dX7_exchange_32 ?_
  refine n_iast (pc := 33) dX7_exchange_33 mset_same hj hn ?_
  exact r_return (pc := 34) false rfl rfl dX7_exchange_34 (Nat.zero_le _) (Nat.zero_le _) (Or.inl rfl) rfl mset_mset
set_option maxRecDepth 20000 in
theorem s_both {M : Mem} {a b c e : Nat} : Spec mX0_both 1 0 0 [.int (nI a), .int (nI b), .int (nI c), .int (nI e)] M (some (.int (iI (sqd a c + sqd b e)))) M := by
  refine Spec_of [some (.int (nI a)), some (.int (nI b)), some (.int (nI c)), some (.int (nI e))] (by decide) (Nat.le_of_ble_eq_true rfl) rfl ?_
  refine r_iload0 (pc := 0) dX0_both_0 ?_
  refine r_iload2 (pc := 1) dX0_both_1 ?_
  first | refine n_isubI (pc := 2) dX0_both_2 ?_ | refine z_isub (pc := 2) dX0_both_2 ?_ | refine r_isub (pc := 2) dX0_both_2 ?_
  refine r_iload0 (pc := 3) dX0_both_3 ?_
  refine r_iload2 (pc := 4) dX0_both_4 ?_
  first | refine n_isubI (pc := 5) dX0_both_5 ?_ | refine z_isub (pc := 5) dX0_both_5 ?_ | refine r_isub (pc := 5) dX0_both_5 ?_
  first | refine n_imul (pc := 6) dX0_both_6 ?_ | refine z_imul (pc := 6) dX0_both_6 ?_ | refine r_imul (pc := 6) dX0_both_6 ?_
  refine r_iload1 (pc := 7) dX0_both_7 ?_
  refine r_iload3 (pc := 8) dX0_both_8 ?_
  first | refine n_isubI (pc := 9) dX0_both_9 ?_ | refine z_isub (pc := 9) dX0_both_9 ?_ | refine r_isub (pc := 9) dX0_both_9 ?_
  refine r_iload1 (pc := 10) dX0_both_10 ?_
  refine r_iload3 (pc := 11) dX0_both_11 ?_
  first | refine n_isubI (pc := 12) dX0_both_12 ?_ | refine z_isub (pc := 12) dX0_both_12 ?_ | refine r_isub (pc := 12) dX0_both_12 ?_
  first | refine n_imul (pc := 13) dX0_both_13 ?_ | refine z_imul (pc := 13) dX0_both_13 ?_ | refine r_imul (pc := 13) dX0_both_13 ?_
  first | refine n_iadd (pc := 14) dX0_both_14 ?_ | refine z_iadd (pc := 14) dX0_both_14 ?_ | refine r_iadd (pc := 14) dX0_both_14 ?_
  exact r_ireturn (pc := 15) false rfl rfl rfl dX0_both_15 (Nat.zero_le _) (Nat.zero_le _) (Or.inl rfl) rfl rfl rfl
def lst (a b c e : Nat) : Int := if sqd a c + sqd b e ≤ sqd a e + sqd b c then sqd a c + sqd b e else sqd a e + sqd b c
set_option maxRecDepth 20000 in
theorem s_leastOf {M : Mem} {a b c e : Nat} (ha : a ≤ 99) (hb : b ≤ 99) (hc : c ≤ 99) (he : e ≤ 99) : Spec mX0_leastOf 1 0 0 [.int (nI a), .int (nI b), .int (nI c), .int (nI e)] M (some (.int (iI (lst a b c e)))) M := by
  have h1 := sqd_le ha hc
  have h2 := sqd_le hb he
  have h3 := sqd_le ha he
  have h4 := sqd_le hb hc
  have e1 : ((a : Int) - c) * ((a : Int) - c) = sqd a c := rfl
  have e2 : ((b : Int) - e) * ((b : Int) - e) = sqd b e := rfl
  have e3 : ((a : Int) - e) * ((a : Int) - e) = sqd a e := rfl
  have e4 : ((b : Int) - c) * ((b : Int) - c) = sqd b c := rfl
  refine Spec_of [some (.int (nI a)), some (.int (nI b)), some (.int (nI c)), some (.int (nI e)), none, none] (by decide) (Nat.le_of_ble_eq_true rfl) rfl ?_
  refine r_iload0 (pc := 0) dX0_leastOf_0 ?_
  refine r_iload2 (pc := 1) dX0_leastOf_1 ?_
  first | refine n_isubI (pc := 2) dX0_leastOf_2 ?_ | refine z_isub (pc := 2) dX0_leastOf_2 ?_ | refine r_isub (pc := 2) dX0_leastOf_2 ?_
  refine r_iload0 (pc := 3) dX0_leastOf_3 ?_
  refine r_iload2 (pc := 4) dX0_leastOf_4 ?_
  first | refine n_isubI (pc := 5) dX0_leastOf_5 ?_ | refine z_isub (pc := 5) dX0_leastOf_5 ?_ | refine r_isub (pc := 5) dX0_leastOf_5 ?_
  first | refine n_imul (pc := 6) dX0_leastOf_6 ?_ | refine z_imul (pc := 6) dX0_leastOf_6 ?_ | refine r_imul (pc := 6) dX0_leastOf_6 ?_
  refine r_iload1 (pc := 7) dX0_leastOf_7 ?_
  refine r_iload3 (pc := 8) dX0_leastOf_8 ?_
  first | refine n_isubI (pc := 9) dX0_leastOf_9 ?_ | refine z_isub (pc := 9) dX0_leastOf_9 ?_ | refine r_isub (pc := 9) dX0_leastOf_9 ?_
  refine r_iload1 (pc := 10) dX0_leastOf_10 ?_
  refine r_iload3 (pc := 11) dX0_leastOf_11 ?_
  first | refine n_isubI (pc := 12) dX0_leastOf_12 ?_ | refine z_isub (pc := 12) dX0_leastOf_12 ?_ | refine r_isub (pc := 12) dX0_leastOf_12 ?_
  first | refine n_imul (pc := 13) dX0_leastOf_13 ?_ | refine z_imul (pc := 13) dX0_leastOf_13 ?_ | refine r_imul (pc := 13) dX0_leastOf_13 ?_
  first | refine n_iadd (pc := 14) dX0_leastOf_14 ?_ | refine z_iadd (pc := 14) dX0_leastOf_14 ?_ | refine r_iadd (pc := 14) dX0_leastOf_14 ?_
  refine r_istore4 (pc := 15) dX0_leastOf_15 rfl ?_
  refine r_iload0 (pc := 17) dX0_leastOf_17 ?_
  refine r_iload3 (pc := 18) dX0_leastOf_18 ?_
  first | refine n_isubI (pc := 19) dX0_leastOf_19 ?_ | refine z_isub (pc := 19) dX0_leastOf_19 ?_ | refine r_isub (pc := 19) dX0_leastOf_19 ?_
  refine r_iload0 (pc := 20) dX0_leastOf_20 ?_
  refine r_iload3 (pc := 21) dX0_leastOf_21 ?_
  first | refine n_isubI (pc := 22) dX0_leastOf_22 ?_ | refine z_isub (pc := 22) dX0_leastOf_22 ?_ | refine r_isub (pc := 22) dX0_leastOf_22 ?_
  first | refine n_imul (pc := 23) dX0_leastOf_23 ?_ | refine z_imul (pc := 23) dX0_leastOf_23 ?_ | refine r_imul (pc := 23) dX0_leastOf_23 ?_
  refine r_iload1 (pc := 24) dX0_leastOf_24 ?_
  refine r_iload2 (pc := 25) dX0_leastOf_25 ?_
  first | refine n_isubI (pc := 26) dX0_leastOf_26 ?_ | refine z_isub (pc := 26) dX0_leastOf_26 ?_ | refine r_isub (pc := 26) dX0_leastOf_26 ?_
  refine r_iload1 (pc := 27) dX0_leastOf_27 ?_
  refine r_iload2 (pc := 28) dX0_leastOf_28 ?_
  first | refine n_isubI (pc := 29) dX0_leastOf_29 ?_ | refine z_isub (pc := 29) dX0_leastOf_29 ?_ | refine r_isub (pc := 29) dX0_leastOf_29 ?_
  first | refine n_imul (pc := 30) dX0_leastOf_30 ?_ | refine z_imul (pc := 30) dX0_leastOf_30 ?_ | refine r_imul (pc := 30) dX0_leastOf_30 ?_
  first | refine n_iadd (pc := 31) dX0_leastOf_31 ?_ | refine z_iadd (pc := 31) dX0_leastOf_31 ?_ | refine r_iadd (pc := 31) dX0_leastOf_31 ?_
  refine r_istore5 (pc := 32) dX0_leastOf_32 rfl ?_
  rw [e1, e2, e3, e4]
  refine r_iload4 (pc := 34) dX0_leastOf_34 ?_
  refine r_iload5 (pc := 36) dX0_leastOf_36 ?_
  refine z_icmp_ge (pc := 38) 46 (by decide) dX0_leastOf_38 (by omega) (by omega) (by omega) (by omega) (fun hc38 => ?_) (fun hc38 => ?_)
  · refine r_iload5 (pc := 46) dX0_leastOf_46 ?_
    exact r_ireturn (pc := 48) false rfl rfl rfl dX0_leastOf_48 (Nat.zero_le _) (Nat.zero_le _) (Or.inl rfl) rfl (by unfold lst; congr 1; split <;> omega) rfl
  · refine r_iload4 (pc := 41) dX0_leastOf_41 ?_
    refine r_goto (pc := 43) 48 (by decide) dX0_leastOf_43 ?_
    exact r_ireturn (pc := 48) false rfl rfl rfl dX0_leastOf_48 (Nat.zero_le _) (Nat.zero_le _) (Or.inl rfl) rfl (by unfold lst; congr 1; split <;> omega) rfl

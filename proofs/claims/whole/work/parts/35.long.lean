def bgL : Nat → Int64
  | 0 => 1
  | n + 1 => bgL n * 1000000
section LONG
variable {M : Mem}
theorem s_behindGroups {n : Nat} (hn : n < 2147483648) : Spec mX7_behindGroups 1 0 0 [.int (nI n)] M (some (.long (bgL n))) M := by
  refine Spec_of [some (.int (nI n)), none, none, none] (by decide) (Nat.le_of_ble_eq_true rfl) rfl ?_
  refine r_lconst_1 (pc := 0) dX7_behindGroups_0 ?_
  refine r_lstore1 (pc := 1) dX7_behindGroups_1 rfl ?_
  refine n_iconst_0 (pc := 2) dX7_behindGroups_2 ?_
  refine r_istore3 (pc := 3) dX7_behindGroups_3 rfl ?_
  refine up_to (N := n) (k := 0) (fun k => G mX7_behindGroups 1 (.inl false) 0 0 (dT (some (.long (bgL n))) M) none 0 0 4 [some (.int (nI n)), some (.long (bgL k)), none, some (.int (nI k))] [] (M)) ?_ (fun k hk ih => ?_) (Nat.zero_le _)
  · refine r_iload3 (pc := 4) dX7_behindGroups_4 ?_
    refine r_iload0 (pc := 5) dX7_behindGroups_5 ?_
    refine n_icmp_ge (pc := 6) 21 (by decide) dX7_behindGroups_6 (by omega) (by omega) (fun hc6 => ?_) (fun hc6 => absurd hc6 (by omega))
    refine r_lload1 (pc := 21) dX7_behindGroups_21 ?_
    exact p_lreturn (pc := 22) false rfl rfl dX7_behindGroups_22 (Nat.zero_le _) (Nat.zero_le _) (Or.inl rfl) ⟨rfl, rfl⟩
  · refine r_iload3 (pc := 4) dX7_behindGroups_4 ?_
    refine r_iload0 (pc := 5) dX7_behindGroups_5 ?_
    refine n_icmp_ge (pc := 6) 21 (by decide) dX7_behindGroups_6 (by omega) (by omega) (fun hc6 => absurd hc6 (by omega)) (fun hc6 => ?_)
    refine r_lload1 (pc := 9) dX7_behindGroups_9 ?_
    refine r_ldc2 (v := (1000000)) (pc := 10) (tG 986 (by decide +kernel) (by decide +kernel)) dX7_behindGroups_10 ?_
    refine r_lmul (pc := 13) dX7_behindGroups_13 ?_
    refine r_lstore1 (pc := 14) dX7_behindGroups_14 rfl ?_
    refine n_iinc3 (pc := 15) dX7_behindGroups_15 rfl ?_
    refine r_goto (pc := 18) 4 (by decide) dX7_behindGroups_18 ?_
    exact ih
end LONG

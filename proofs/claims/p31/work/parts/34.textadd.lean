theorem i2c_nI {c : Nat} (h : c < 65536) : ((nI c).toUInt32 % 65536).toInt32 = nI c := by
  have e1 : (nI c).toUInt32 = UInt32.ofNat c := rfl
  have e2 : UInt32.ofNat c % 65536 = UInt32.ofNat c := by
    apply UInt32.toNat_inj.mp
    rw [UInt32.toNat_mod, UInt32.toNat_ofNat']
    show c % 4294967296 % 65536 = c % 4294967296
    omega
  rw [e1, e2]
  rfl
theorem nar_char {c : Nat} (h : c < 65536) : vp_nar .char (nI c) = nI c := by
  have h1 : narrow .char (.int (nI c)) = .int (nI c) := by
    show Value.int ((nI c).toUInt32 % 65536).toInt32 = _
    rw [i2c_nI h]
  unfold vp_nar
  rw [h1]
/-- the memory with a text of n signs at t -/
def tset (M : Mem) (t n : Nat) (g : Nat → Int32) : Mem := mset (mset M (t + 1) (cC 120 g)) t (cO 5 [.ref (t + 1), .int (nI n)])
section TEXTADD
variable {M : Mem} {t n : Nat} {f : Nat → Nat}
theorem s_add (h : TXT M t n f) (hn : n < 120) {c : Nat} (hc : c < 65536) : SpecP mX6_add 1 0 0 [.ref t, .int (nI c)] M (tP none (fun Mf => ∃ g, Mf = tset M t (n + 1) g ∧ TXT Mf t (n + 1) (ups f n c))) := by
  obtain ⟨h1, h2, g, h3, h4, h5⟩ := h
  refine Spec_of [some (.ref t), some (.int (nI c))] (by decide) (Nat.le_of_ble_eq_true rfl) rfl ?_
  refine r_aload0 (pc := 0) dX6_add_0 ?_
  refine r_getf (pc := 1) fl_X6_15 dX6_add_1 h3 rfl ?_
  refine n_if_lt (pc := 4) 40 (by decide) dX6_add_4 (by omega) ?_
  refine r_aload0 (pc := 7) dX6_add_7 ?_
  refine r_getf (pc := 8) fl_X6_15 dX6_add_8 h3 rfl ?_
  refine r_aload0 (pc := 11) dX6_add_11 ?_
  refine r_getf (pc := 12) fl_X6_9 dX6_add_12 h3 rfl ?_
  refine r_alenC (pc := 15) dX6_add_15 h4 ?_
  refine n_icmp_ge (pc := 16) 40 (by decide) dX6_add_16 (by omega) (by omega) (fun hc16 => absurd hc16 (by omega)) (fun hc16 => ?_)
  refine r_aload0 (pc := 19) dX6_add_19 ?_
  refine r_getf (pc := 20) fl_X6_9 dX6_add_20 h3 rfl ?_
  refine r_aload0 (pc := 23) dX6_add_23 ?_
  refine r_getf (pc := 24) fl_X6_15 dX6_add_24 h3 rfl ?_
  refine r_iload1 (pc := 27) dX6_add_27 ?_
  refine r_i2c (pc := 28) dX6_add_28 ?_
  rw [i2c_nI hc]
  refine n_cast (pc := 29) dX6_add_29 h4 (by omega) (by decide) ?_
  rw [nar_char hc]
  have h6 : mset M (t + 1) (cC 120 (upd g n (nI c))) t = some (cO 5 [.ref (t + 1), .int (nI n)]) := by rw [mset_ne (by omega)]; exact h3
  refine r_aload0 (pc := 30) dX6_add_30 ?_
  refine r_dup (pc := 31) dX6_add_31 rfl ?_
  refine r_getf (pc := 32) fl_X6_15 dX6_add_32 h6 rfl ?_
  refine n_iconst_1 (pc := 35) dX6_add_35 ?_
  first | refine n_iadd (pc := 36) dX6_add_36 ?_ | refine z_iadd (pc := 36) dX6_add_36 ?_ | refine r_iadd (pc := 36) dX6_add_36 ?_
  refine r_putfI (pc := 37) fl_X6_15 dX6_add_37 h6 (Nat.le_of_ble_eq_true rfl) ?_
  refine p_return (pc := 40) false rfl rfl dX6_add_40 (Nat.zero_le _) (Nat.zero_le _) (Or.inl rfl) ⟨rfl, upd g n (nI c), rfl, by omega, fun i hi => ?_, upd g n (nI c), mset_same, ?_, fun i hi => ?_⟩
  · unfold ups
    split
    · exact hc
    · exact h2 i (by omega)
  · rw [mset_ne (by omega)]; exact mset_same
  · unfold ups
    by_cases e : i = n
    · rw [e, upd_same, if_pos rfl]
    · rw [upd_ne e, if_neg e]; exact h5 i (by omega)
end TEXTADD

abbrev rset (M : Mem) (a : Nat) (f : Nat → Int32) : Mem := mset M a (cI 563 f)
def tR (r : Option Value) (M : Mem) (a : Nat) (z : ZS) : TG := tP r (fun Mf => ∃ f', InvR f' z ∧ Mf = rset M a f')
theorem InvR.setT {f : Nat → Int32} {z : ZS} (h : InvR f z) (hZ : ZOK z) {k v : Nat} (hk : k < zt z) : InvR (upd f (227 + zF z k) (nI v)) (zset z 3 (ups (zT z) k v)) := by
  have hd := hZ.dims
  have hq := hZ.fq hk
  refine ⟨⟨by rw [upd_ne (by omega)]; exact h.n, by rw [upd_ne (by omega)]; exact h.s, by rw [upd_ne (by omega)]; exact h.ch⟩, fun s hs => ?_, fun j hj => ?_, fun s hs hn => ?_⟩
  · have hs : s < zq z := hs
    rw [upd_ne (by omega)]; exact h.G hs
  · have hj : j < zt z := hj
    have hqj := hZ.fq hj
    refine ⟨?_, ?_, ?_, ?_⟩
    · show upd f (227 + zF z k) (nI v) (115 + zF z j) = nI (lz z j)
      rw [upd_ne (by omega)]; exact h.L hj
    · show upd f (227 + zF z k) (nI v) (227 + zF z j) = nI (ups (zT z) k v j)
      by_cases e : j = k
      · rw [e, upd_same, ups_same]
      · rw [upd_ne (fun q => e (hZ.finj hj hk (by omega))), ups_ne e]; exact h.T hj
    · show upd f (227 + zF z k) (nI v) (339 + zF z j) = nI (zU z j)
      rw [upd_ne (by omega)]; exact h.U hj
    · show upd f (227 + zF z k) (nI v) (451 + zF z j) = nI (zH z j)
      rw [upd_ne (by omega)]; exact h.H hj
  · have hs : s < zq z := hs
    rw [upd_ne (by omega)]; exact h.Z hs hn
theorem InvR.setU {f : Nat → Int32} {z : ZS} (h : InvR f z) (hZ : ZOK z) {k v : Nat} (hk : k < zt z) : InvR (upd f (339 + zF z k) (nI v)) (zset z 4 (ups (zU z) k v)) := by
  have hd := hZ.dims
  have hq := hZ.fq hk
  refine ⟨⟨by rw [upd_ne (by omega)]; exact h.n, by rw [upd_ne (by omega)]; exact h.s, by rw [upd_ne (by omega)]; exact h.ch⟩, fun s hs => ?_, fun j hj => ?_, fun s hs hn => ?_⟩
  · have hs : s < zq z := hs
    rw [upd_ne (by omega)]; exact h.G hs
  · have hj : j < zt z := hj
    have hqj := hZ.fq hj
    refine ⟨?_, ?_, ?_, ?_⟩
    · show upd f (339 + zF z k) (nI v) (115 + zF z j) = nI (lz z j)
      rw [upd_ne (by omega)]; exact h.L hj
    · show upd f (339 + zF z k) (nI v) (227 + zF z j) = nI (zT z j)
      rw [upd_ne (by omega)]; exact h.T hj
    · show upd f (339 + zF z k) (nI v) (339 + zF z j) = nI (ups (zU z) k v j)
      by_cases e : j = k
      · rw [e, upd_same, ups_same]
      · rw [upd_ne (fun q => e (hZ.finj hj hk (by omega))), ups_ne e]; exact h.U hj
    · show upd f (339 + zF z k) (nI v) (451 + zF z j) = nI (zH z j)
      rw [upd_ne (by omega)]; exact h.H hj
  · have hs : s < zq z := hs
    rw [upd_ne (by omega)]; exact h.Z hs hn
theorem InvR.setH {f : Nat → Int32} {z : ZS} (h : InvR f z) (hZ : ZOK z) {k v : Nat} (hk : k < zt z) : InvR (upd f (451 + zF z k) (nI v)) (zset z 5 (ups (zH z) k v)) := by
  have hd := hZ.dims
  have hq := hZ.fq hk
  refine ⟨⟨by rw [upd_ne (by omega)]; exact h.n, by rw [upd_ne (by omega)]; exact h.s, by rw [upd_ne (by omega)]; exact h.ch⟩, fun s hs => ?_, fun j hj => ?_, fun s hs hn => ?_⟩
  · have hs : s < zq z := hs
    rw [upd_ne (by omega)]; exact h.G hs
  · have hj : j < zt z := hj
    have hqj := hZ.fq hj
    refine ⟨?_, ?_, ?_, ?_⟩
    · show upd f (451 + zF z k) (nI v) (115 + zF z j) = nI (lz z j)
      rw [upd_ne (by omega)]; exact h.L hj
    · show upd f (451 + zF z k) (nI v) (227 + zF z j) = nI (zT z j)
      rw [upd_ne (by omega)]; exact h.T hj
    · show upd f (451 + zF z k) (nI v) (339 + zF z j) = nI (zU z j)
      rw [upd_ne (by omega)]; exact h.U hj
    · show upd f (451 + zF z k) (nI v) (451 + zF z j) = nI (ups (zH z) k v j)
      by_cases e : j = k
      · rw [e, upd_same, ups_same]
      · rw [upd_ne (fun q => e (hZ.finj hj hk (by omega))), ups_ne e]; exact h.H hj
  · have hs : s < zq z := hs
    rw [upd_ne (by omega)]; exact h.Z hs hn
theorem InvR.setG {f : Nat → Int32} {z : ZS} (h : InvR f z) (hZ : ZOK z) {i v : Nat} (hi : i < zq z) : InvR (upd f (3 + i) (nI v)) (zset z 0 (ups (zG z) i v)) := by
  have hd := hZ.dims
  refine ⟨⟨by rw [upd_ne (by omega)]; exact h.n, by rw [upd_ne (by omega)]; exact h.s, by rw [upd_ne (by omega)]; exact h.ch⟩, fun s hs => ?_, fun j hj => ?_, fun s hs hn => ?_⟩
  · have hs : s < zq z := hs
    show upd f (3 + i) (nI v) (3 + s) = nI (ups (zG z) i v s)
    by_cases e : s = i
    · rw [e, upd_same, ups_same]
    · rw [upd_ne (by omega), ups_ne e]; exact h.G hs
  · have hj : j < zt z := hj
    have hqj := hZ.fq hj
    refine ⟨?_, ?_, ?_, ?_⟩
    · show upd f (3 + i) (nI v) (115 + zF z j) = nI (lz z j)
      rw [upd_ne (by omega)]; exact h.L hj
    · show upd f (3 + i) (nI v) (227 + zF z j) = nI (zT z j)
      rw [upd_ne (by omega)]; exact h.T hj
    · show upd f (3 + i) (nI v) (339 + zF z j) = nI (zU z j)
      rw [upd_ne (by omega)]; exact h.U hj
    · show upd f (3 + i) (nI v) (451 + zF z j) = nI (zH z j)
      rw [upd_ne (by omega)]; exact h.H hj
  · have hs : s < zq z := hs
    rw [upd_ne (by omega)]; exact h.Z hs hn
theorem InvR.chg {f : Nat → Int32} {z : ZS} (h : InvR f z) : InvR (upd f 2 (f 2 + nI 1)) (zchg z) := by
  refine ⟨⟨by rw [upd_ne (by omega)]; exact h.n, by rw [upd_ne (by omega)]; exact h.s, by rw [upd_same, h.ch]; rfl⟩, fun s hs => ?_, fun j hj => ?_, fun s hs hn => ?_⟩
  · rw [upd_ne (by omega)]; exact h.G hs
  · rw [upd_ne (by omega), upd_ne (by omega), upd_ne (by omega), upd_ne (by omega)]
    exact h.2.2.1 j hj
  · rw [upd_ne (by omega)]; exact h.Z hs hn
theorem InvR.ren {f : Nat → Int32} {w z : ZS} {r : Nat → Nat} (h : InvR f w) (hr : Ren w z r) : InvR f z := by
  obtain ⟨r1, r2, r3, r4, r5, r6, r7, r8⟩ := hr
  have et : zt z = zt w := zt_same r1 r2
  have eq : zq z = zq w := by unfold zq zc zr; rw [r1, r2]
  refine ⟨⟨by rw [r1]; exact h.n, by rw [r2]; exact h.s, by rw [r3]; exact h.ch⟩, fun s hs => ?_, fun j hj => ?_, fun s hs hn => ?_⟩
  · rw [r4]; exact h.G (by omega)
  · rw [et] at hj
    obtain ⟨q1, q2, q3, q4, q5⟩ := r8 j hj
    have hl : lz z j = lz w (r j) := by unfold lz al; rw [q1, q2]
    rw [q1, q3, q4, q5, hl]
    exact h.2.2.1 _ (r5 j hj)
  · refine h.Z (by omega) (fun k hk e => ?_)
    obtain ⟨i, hi, ei⟩ := r6 k hk
    exact hn i (by omega) (by rw [(r8 i hi).1, ei]; exact e)
theorem swap_ren {z : ZS} {j k : Nat} (hjk : j ≠ k) : Ren (layT (layT z j (zT z k)) k (zT z j)) (layW (layW (exT z j k) j) k) (fun i => i) := by
  have a1 : zT (exT z j k) j = zT z k := by
    show ups (ups (zT z) j (zT z k)) k (zT z j) j = _
    rw [ups_ne hjk, ups_same]
  have a2 : zT (exT z j k) k = zT z j := ups_same
  refine ⟨rfl, rfl, rfl, fun _ => rfl, fun _ h => h, fun i h => ⟨i, h, rfl⟩, fun _ _ _ _ e => e, fun i hi => ⟨rfl, rfl, rfl, ?_, rfl⟩⟩
  show ups (ups (zU z) j (bet z (zF z j) (zO z j) (zT (exT z j k) j))) k (bet z (zF z k) (zO z k) (zT (exT z j k) k)) i = ups (ups (zU z) j (bet z (zF z j) (zO z j) (ups (zT z) j (zT z k) j))) k (bet z (zF z k) (zO z k) (ups (ups (zT z) j (zT z k)) k (zT z j) k)) i
  rw [a1, a2, ups_same, ups_same]
section RWRITE
variable {M : Mem} {a : Nat} {f : Nat → Int32} {z : ZS}
theorem s8_gainOfTurn (hM : M a = some (cI 563 f)) (hI : InvR f z) (hZ : ZOK z) {k : Nat} (hk : k < zt z) : Spec mX8_gainOfTurn 5 0 0 [.ref a, .int (nI (zF z k))] M (some (.int (iI (tgZ z k)))) M := by
  have hd := hZ.dims
  have hq := hZ.fq hk
  have hu := hZ.u hk
  refine Spec_of [some (.ref a), some (.int (nI (zF z k)))] (by decide) (Nat.le_of_ble_eq_true rfl) rfl ?_
  refine r_aload0 (pc := 0) dX8_gainOfTurn_0 ?_
  refine r_iload1 (pc := 1) dX8_gainOfTurn_1 ?_
  refine r_callS2i (pc := 2) lk_X8_85 dX8_gainOfTurn_2 (s8_placeError hM hI hZ hk) (by decide) (Nat.le_of_ble_eq_true rfl) ⟨Nat.zero_le _, Nat.zero_le _⟩ ?_
  refine r_aload0 (pc := 5) dX8_gainOfTurn_5 ?_
  refine r_iload1 (pc := 6) dX8_gainOfTurn_6 ?_
  refine r_aload0 (pc := 7) dX8_gainOfTurn_7 ?_
  refine r_iload1 (pc := 8) dX8_gainOfTurn_8 ?_
  refine r_callS2i (pc := 9) lk_X8_82 dX8_gainOfTurn_9 (s8_otherOf hM hI hZ hk) (by decide) (Nat.le_of_ble_eq_true rfl) ⟨Nat.zero_le _, Nat.zero_le _⟩ ?_
  refine r_aload0 (pc := 12) dX8_gainOfTurn_12 ?_
  refine n_sipush (pc := 13) 227 (by decide) dX8_gainOfTurn_13 ?_
  refine r_iload1 (pc := 16) dX8_gainOfTurn_16 ?_
  first | refine n_iadd (pc := 17) dX8_gainOfTurn_17 ?_ | refine z_iadd (pc := 17) dX8_gainOfTurn_17 ?_ | refine r_iadd (pc := 17) dX8_gainOfTurn_17 ?_
  refine n_iald (pc := 18) dX8_gainOfTurn_18 hM (by omega) (by decide) (hI.T hk) ?_
  refine n_iconst_1 (pc := 19) dX8_gainOfTurn_19 ?_
  refine r_aload0 (pc := 20) dX8_gainOfTurn_20 ?_
  refine n_sipush (pc := 21) 339 (by decide) dX8_gainOfTurn_21 ?_
  refine r_iload1 (pc := 24) dX8_gainOfTurn_24 ?_
  first | refine n_iadd (pc := 25) dX8_gainOfTurn_25 ?_ | refine z_iadd (pc := 25) dX8_gainOfTurn_25 ?_ | refine r_iadd (pc := 25) dX8_gainOfTurn_25 ?_
  refine n_iald (pc := 26) dX8_gainOfTurn_26 hM (by omega) (by decide) (hI.U hk) ?_
  refine n_isub (pc := 27) dX8_gainOfTurn_27 (by omega) ?_
  refine r_callS5i (pc := 28) lk_X8_71 dX8_gainOfTurn_28 (s8_errorOn hM hI hZ (hZ.fq hk) (hZ.oq hk) (hZ.t hk) (by omega)) (by decide) (Nat.le_of_ble_eq_true rfl) ⟨Nat.zero_le _, Nat.zero_le _⟩ ?_
  first | refine n_isubI (pc := 31) dX8_gainOfTurn_31 ?_ | refine z_isub (pc := 31) dX8_gainOfTurn_31 ?_ | refine r_isub (pc := 31) dX8_gainOfTurn_31 ?_
  exact r_ireturn (pc := 32) false rfl rfl rfl dX8_gainOfTurn_32 (Nat.zero_le _) (Nat.zero_le _) (Or.inl rfl) rfl rfl rfl
theorem s8_gainOfSwap (hM : M a = some (cI 563 f)) (hI : InvR f z) (hZ : ZOK z) {j k : Nat} (hj : j < zt z) (hk : k < zt z) : Spec mX8_gainOfSwap 6 0 0 [.ref a, .int (nI (zF z j)), .int (nI (zF z k))] M (some (.int (iI (sgZ z j k)))) M := by
  have hd := hZ.dims
  have hqj := hZ.fq hj
  have hqk := hZ.fq hk
  refine Spec_of [some (.ref a), some (.int (nI (zF z j))), some (.int (nI (zF z k))), none] (by decide) (Nat.le_of_ble_eq_true rfl) rfl ?_
  refine r_aload0 (pc := 0) dX8_gainOfSwap_0 ?_
  refine r_iload1 (pc := 1) dX8_gainOfSwap_1 ?_
  refine r_callS2i (pc := 2) lk_X8_85 dX8_gainOfSwap_2 (s8_placeError hM hI hZ hj) (by decide) (Nat.le_of_ble_eq_true rfl) ⟨Nat.zero_le _, Nat.zero_le _⟩ ?_
  refine r_aload0 (pc := 5) dX8_gainOfSwap_5 ?_
  refine r_iload2 (pc := 6) dX8_gainOfSwap_6 ?_
  refine r_callS2i (pc := 7) lk_X8_85 dX8_gainOfSwap_7 (s8_placeError hM hI hZ hk) (by decide) (Nat.le_of_ble_eq_true rfl) ⟨Nat.zero_le _, Nat.zero_le _⟩ ?_
  first | refine n_iadd (pc := 10) dX8_gainOfSwap_10 ?_ | refine z_iadd (pc := 10) dX8_gainOfSwap_10 ?_ | refine r_iadd (pc := 10) dX8_gainOfSwap_10 ?_
  refine r_istore3 (pc := 11) dX8_gainOfSwap_11 rfl ?_
  refine r_iload3 (pc := 12) dX8_gainOfSwap_12 ?_
  refine r_aload0 (pc := 13) dX8_gainOfSwap_13 ?_
  refine r_iload1 (pc := 14) dX8_gainOfSwap_14 ?_
  refine r_aload0 (pc := 15) dX8_gainOfSwap_15 ?_
  refine r_iload1 (pc := 16) dX8_gainOfSwap_16 ?_
  refine r_callS2i (pc := 17) lk_X8_82 dX8_gainOfSwap_17 (s8_otherOf hM hI hZ hj) (by decide) (Nat.le_of_ble_eq_true rfl) ⟨Nat.zero_le _, Nat.zero_le _⟩ ?_
  refine r_aload0 (pc := 20) dX8_gainOfSwap_20 ?_
  refine n_sipush (pc := 21) 227 (by decide) dX8_gainOfSwap_21 ?_
  refine r_iload2 (pc := 24) dX8_gainOfSwap_24 ?_
  first | refine n_iadd (pc := 25) dX8_gainOfSwap_25 ?_ | refine z_iadd (pc := 25) dX8_gainOfSwap_25 ?_ | refine r_iadd (pc := 25) dX8_gainOfSwap_25 ?_
  refine n_iald (pc := 26) dX8_gainOfSwap_26 hM (by omega) (by decide) (hI.T hk) ?_
  refine r_callS4i (pc := 27) lk_X8_88 dX8_gainOfSwap_27 (s8_bestError hM hI hZ (hZ.fq hj) (hZ.oq hj) (hZ.t hk)) (by decide) (Nat.le_of_ble_eq_true rfl) ⟨Nat.zero_le _, Nat.zero_le _⟩ ?_
  first | refine n_isubI (pc := 30) dX8_gainOfSwap_30 ?_ | refine z_isub (pc := 30) dX8_gainOfSwap_30 ?_ | refine r_isub (pc := 30) dX8_gainOfSwap_30 ?_
  refine r_aload0 (pc := 31) dX8_gainOfSwap_31 ?_
  refine r_iload2 (pc := 32) dX8_gainOfSwap_32 ?_
  refine r_aload0 (pc := 33) dX8_gainOfSwap_33 ?_
  refine r_iload2 (pc := 34) dX8_gainOfSwap_34 ?_
  refine r_callS2i (pc := 35) lk_X8_82 dX8_gainOfSwap_35 (s8_otherOf hM hI hZ hk) (by decide) (Nat.le_of_ble_eq_true rfl) ⟨Nat.zero_le _, Nat.zero_le _⟩ ?_
  refine r_aload0 (pc := 38) dX8_gainOfSwap_38 ?_
  refine n_sipush (pc := 39) 227 (by decide) dX8_gainOfSwap_39 ?_
  refine r_iload1 (pc := 42) dX8_gainOfSwap_42 ?_
  first | refine n_iadd (pc := 43) dX8_gainOfSwap_43 ?_ | refine z_iadd (pc := 43) dX8_gainOfSwap_43 ?_ | refine r_iadd (pc := 43) dX8_gainOfSwap_43 ?_
  refine n_iald (pc := 44) dX8_gainOfSwap_44 hM (by omega) (by decide) (hI.T hj) ?_
  refine r_callS4i (pc := 45) lk_X8_88 dX8_gainOfSwap_45 (s8_bestError hM hI hZ (hZ.fq hk) (hZ.oq hk) (hZ.t hj)) (by decide) (Nat.le_of_ble_eq_true rfl) ⟨Nat.zero_le _, Nat.zero_le _⟩ ?_
  first | refine n_isubI (pc := 48) dX8_gainOfSwap_48 ?_ | refine z_isub (pc := 48) dX8_gainOfSwap_48 ?_ | refine r_isub (pc := 48) dX8_gainOfSwap_48 ?_
  exact r_ireturn (pc := 49) false rfl rfl rfl dX8_gainOfSwap_49 (Nat.zero_le _) (Nat.zero_le _) (Or.inl rfl) rfl rfl rfl
theorem s8_partnerS (hM : M a = some (cI 563 f)) (hI : InvR f z) (hZ : ZOK z) {k l : Nat} (hk : k < zt z) (hp : part z k = some l) : Spec mX8_partner 2 0 0 [.ref a, .int (nI (zF z k))] M (some (.int (nI (zF z l)))) M := by
  have h := s8_partner hM hI hZ (hZ.fq hk)
  rw [prS_some hZ hk hp] at h
  exact h
set_option maxRecDepth 20000 in
theorem s8_gainOfFlip (hM : M a = some (cI 563 f)) (hI : InvR f z) (hZ : ZOK z) {k l : Nat} (hk : k < zt z) (hp : part z k = some l) : Spec mX8_gainOfFlip 6 0 0 [.ref a, .int (nI (zF z k))] M (some (.int (iI (fgZ z k l)))) M := by
  have hd := hZ.dims
  have hl := part_lt hZ hp
  have hqk := hZ.fq hk
  have hql := hZ.fq hl
  have hok := hZ.oq hk
  have hol := hZ.oq hl
  have hlp := lz_pos z k
  obtain ⟨g1, g2, g3, g4⟩ := part_geo hZ hk hp
  refine Spec_of [some (.ref a), some (.int (nI (zF z k))), none, none, none, none, none, none] (by decide) (Nat.le_of_ble_eq_true rfl) rfl ?_
  have fin : ∀ (c : Bool) (e b : Nat), e = zF z k + stp z k → b = fst2 z k → zF z k + zc z + 1 = fst2 z k + stp z k →
    G mX8_gainOfFlip 6 (.inl false) 0 0 (dT (some (.int (iI (fgZ z k l)))) M) none 0 0 73 [some (.ref a), some (.int (nI (zF z k))), some (.int (nI (zc z))), some (.int (nI (zF z l))), some (.int (iI (er z k + er z l))), some (.int (bI c)), some (.int (nI e)), some (.int (nI b))] [] M
    := by
    intro c e b e1 e2 e3
    refine r_iload4 (pc := 73) dX8_gainOfFlip_73 ?_
    refine r_aload0 (pc := 75) dX8_gainOfFlip_75 ?_
    refine r_iload1 (pc := 76) dX8_gainOfFlip_76 ?_
    refine r_iload6 (pc := 77) dX8_gainOfFlip_77 ?_
    refine r_aload0 (pc := 79) dX8_gainOfFlip_79 ?_
    refine n_sipush (pc := 80) 227 (by decide) dX8_gainOfFlip_80 ?_
    refine r_iload1 (pc := 83) dX8_gainOfFlip_83 ?_
    first | refine n_iadd (pc := 84) dX8_gainOfFlip_84 ?_ | refine z_iadd (pc := 84) dX8_gainOfFlip_84 ?_ | refine r_iadd (pc := 84) dX8_gainOfFlip_84 ?_
    refine n_iald (pc := 85) dX8_gainOfFlip_85 hM (by omega) (by decide) (hI.T hk) ?_
    refine r_callS4i (pc := 86) lk_X8_88 dX8_gainOfFlip_86 (s8_bestError hM hI hZ (hZ.fq hk) (by omega) (hZ.t hk)) (by decide) (Nat.le_of_ble_eq_true rfl) ⟨Nat.zero_le _, Nat.zero_le _⟩ ?_
    first | refine n_isubI (pc := 89) dX8_gainOfFlip_89 ?_ | refine z_isub (pc := 89) dX8_gainOfFlip_89 ?_ | refine r_isub (pc := 89) dX8_gainOfFlip_89 ?_
    refine r_aload0 (pc := 90) dX8_gainOfFlip_90 ?_
    refine r_iload7 (pc := 91) dX8_gainOfFlip_91 ?_
    refine r_iload1 (pc := 93) dX8_gainOfFlip_93 ?_
    refine r_iload2 (pc := 94) dX8_gainOfFlip_94 ?_
    first | refine n_iadd (pc := 95) dX8_gainOfFlip_95 ?_ | refine z_iadd (pc := 95) dX8_gainOfFlip_95 ?_ | refine r_iadd (pc := 95) dX8_gainOfFlip_95 ?_
    refine n_iconst_1 (pc := 96) dX8_gainOfFlip_96 ?_
    first | refine n_iadd (pc := 97) dX8_gainOfFlip_97 ?_ | refine z_iadd (pc := 97) dX8_gainOfFlip_97 ?_ | refine r_iadd (pc := 97) dX8_gainOfFlip_97 ?_
    refine r_aload0 (pc := 98) dX8_gainOfFlip_98 ?_
    refine n_sipush (pc := 99) 227 (by decide) dX8_gainOfFlip_99 ?_
    refine r_iload3 (pc := 102) dX8_gainOfFlip_102 ?_
    first | refine n_iadd (pc := 103) dX8_gainOfFlip_103 ?_ | refine z_iadd (pc := 103) dX8_gainOfFlip_103 ?_ | refine r_iadd (pc := 103) dX8_gainOfFlip_103 ?_
    refine n_iald (pc := 104) dX8_gainOfFlip_104 hM (by omega) (by decide) (hI.T hl) ?_
    refine r_callS4i (pc := 105) lk_X8_88 dX8_gainOfFlip_105 (s8_bestError hM hI hZ (by omega) (by omega) (hZ.t hl)) (by decide) (Nat.le_of_ble_eq_true rfl) ⟨Nat.zero_le _, Nat.zero_le _⟩ ?_
    first | refine n_isubI (pc := 108) dX8_gainOfFlip_108 ?_ | refine z_isub (pc := 108) dX8_gainOfFlip_108 ?_ | refine r_isub (pc := 108) dX8_gainOfFlip_108 ?_
    exact r_ireturn (pc := 109) false rfl rfl rfl dX8_gainOfFlip_109 (Nat.zero_le _) (Nat.zero_le _) (Or.inl rfl) rfl (by rw [e1, e2, e3]; rfl) rfl
  refine r_aload0 (pc := 0) dX8_gainOfFlip_0 ?_
  refine r_callS1i (pc := 1) lk_X8_40 dX8_gainOfFlip_1 (s8_wide hM hI) (by decide) (Nat.le_of_ble_eq_true rfl) ⟨Nat.zero_le _, Nat.zero_le _⟩ ?_
  refine r_istore2 (pc := 4) dX8_gainOfFlip_4 rfl ?_
  refine r_aload0 (pc := 5) dX8_gainOfFlip_5 ?_
  refine r_iload1 (pc := 6) dX8_gainOfFlip_6 ?_
  refine r_callS2i (pc := 7) lk_X8_91 dX8_gainOfFlip_7 (s8_partnerS hM hI hZ hk hp) (by decide) (Nat.le_of_ble_eq_true rfl) ⟨Nat.zero_le _, Nat.zero_le _⟩ ?_
  refine r_istore3 (pc := 10) dX8_gainOfFlip_10 rfl ?_
  refine r_aload0 (pc := 11) dX8_gainOfFlip_11 ?_
  refine r_iload1 (pc := 12) dX8_gainOfFlip_12 ?_
  refine r_callS2i (pc := 13) lk_X8_85 dX8_gainOfFlip_13 (s8_placeError hM hI hZ hk) (by decide) (Nat.le_of_ble_eq_true rfl) ⟨Nat.zero_le _, Nat.zero_le _⟩ ?_
  refine r_aload0 (pc := 16) dX8_gainOfFlip_16 ?_
  refine r_iload3 (pc := 17) dX8_gainOfFlip_17 ?_
  refine r_callS2i (pc := 18) lk_X8_85 dX8_gainOfFlip_18 (s8_placeError hM hI hZ hl) (by decide) (Nat.le_of_ble_eq_true rfl) ⟨Nat.zero_le _, Nat.zero_le _⟩ ?_
  first | refine n_iadd (pc := 21) dX8_gainOfFlip_21 ?_ | refine z_iadd (pc := 21) dX8_gainOfFlip_21 ?_ | refine r_iadd (pc := 21) dX8_gainOfFlip_21 ?_
  refine r_istore4 (pc := 22) dX8_gainOfFlip_22 rfl ?_
  refine r_aload0 (pc := 24) dX8_gainOfFlip_24 ?_
  refine n_bipush (pc := 25) 115 (by decide) dX8_gainOfFlip_25 ?_
  refine r_iload1 (pc := 27) dX8_gainOfFlip_27 ?_
  first | refine n_iadd (pc := 28) dX8_gainOfFlip_28 ?_ | refine z_iadd (pc := 28) dX8_gainOfFlip_28 ?_ | refine r_iadd (pc := 28) dX8_gainOfFlip_28 ?_
  refine n_iald (pc := 29) dX8_gainOfFlip_29 hM (by omega) (by decide) (hI.L hk) ?_
  refine n_iconst_1 (pc := 30) dX8_gainOfFlip_30 ?_
  rcases al_iff hZ hk with ⟨a1, a2, a3, a4⟩ | ⟨a1, a2, a4⟩
  · have f1 : fst2 z k = zF z k + 1 := by unfold fst2; rw [a1]; rfl
    have f2 : stp z k = zc z := by unfold stp; rw [a1]; rfl
    rw [a4]
    refine n_icmp_ne (pc := 31) 38 (by decide) dX8_gainOfFlip_31 (by omega) (by omega) (fun hc31 => absurd hc31 (by omega)) (fun hc31 => ?_)
    refine n_iconst_1 (pc := 34) dX8_gainOfFlip_34 ?_
    refine r_goto (pc := 35) 39 (by decide) dX8_gainOfFlip_35 ?_
    refine r_istore5 (pc := 39) dX8_gainOfFlip_39 rfl ?_
    refine r_iload5 (pc := 41) dX8_gainOfFlip_41 ?_
    refine b_if_eq (b := true) (pc := 43) 52 (by decide) dX8_gainOfFlip_43 (fun h9 => by cases h9) (fun _ => ?_)
    refine r_iload1 (pc := 46) dX8_gainOfFlip_46 ?_
    refine r_iload2 (pc := 47) dX8_gainOfFlip_47 ?_
    first | refine n_iadd (pc := 48) dX8_gainOfFlip_48 ?_ | refine z_iadd (pc := 48) dX8_gainOfFlip_48 ?_ | refine r_iadd (pc := 48) dX8_gainOfFlip_48 ?_
    refine r_goto (pc := 49) 55 (by decide) dX8_gainOfFlip_49 ?_
    refine r_istore6 (pc := 55) dX8_gainOfFlip_55 rfl ?_
    refine r_iload5 (pc := 57) dX8_gainOfFlip_57 ?_
    refine b_if_eq (b := true) (pc := 59) 68 (by decide) dX8_gainOfFlip_59 (fun h9 => by cases h9) (fun _ => ?_)
    refine r_iload1 (pc := 62) dX8_gainOfFlip_62 ?_
    refine n_iconst_1 (pc := 63) dX8_gainOfFlip_63 ?_
    first | refine n_iadd (pc := 64) dX8_gainOfFlip_64 ?_ | refine z_iadd (pc := 64) dX8_gainOfFlip_64 ?_ | refine r_iadd (pc := 64) dX8_gainOfFlip_64 ?_
    refine r_goto (pc := 65) 71 (by decide) dX8_gainOfFlip_65 ?_
    refine r_istore7 (pc := 71) dX8_gainOfFlip_71 rfl ?_
    exact fin true _ _ (by rw [f2]) (by rw [f1]) (by rw [f1, f2]; omega)
  · have f1 : fst2 z k = zF z k + zc z := by unfold fst2; rw [a1]; rfl
    have f2 : stp z k = 1 := by unfold stp; rw [a1]; rfl
    rw [a4]
    refine n_icmp_ne (pc := 31) 38 (by decide) dX8_gainOfFlip_31 (by omega) (by omega) (fun hc31 => ?_) (fun hc31 => absurd hc31 (by omega))
    refine n_iconst_0 (pc := 38) dX8_gainOfFlip_38 ?_
    refine r_istore5 (pc := 39) dX8_gainOfFlip_39 rfl ?_
    refine r_iload5 (pc := 41) dX8_gainOfFlip_41 ?_
    refine b_if_eq (b := false) (pc := 43) 52 (by decide) dX8_gainOfFlip_43 (fun _ => ?_) (fun h9 => by cases h9)
    refine r_iload1 (pc := 52) dX8_gainOfFlip_52 ?_
    refine n_iconst_1 (pc := 53) dX8_gainOfFlip_53 ?_
    first | refine n_iadd (pc := 54) dX8_gainOfFlip_54 ?_ | refine z_iadd (pc := 54) dX8_gainOfFlip_54 ?_ | refine r_iadd (pc := 54) dX8_gainOfFlip_54 ?_
    refine r_istore6 (pc := 55) dX8_gainOfFlip_55 rfl ?_
    refine r_iload5 (pc := 57) dX8_gainOfFlip_57 ?_
    refine b_if_eq (b := false) (pc := 59) 68 (by decide) dX8_gainOfFlip_59 (fun _ => ?_) (fun h9 => by cases h9)
    refine r_iload1 (pc := 68) dX8_gainOfFlip_68 ?_
    refine r_iload2 (pc := 69) dX8_gainOfFlip_69 ?_
    first | refine n_iadd (pc := 70) dX8_gainOfFlip_70 ?_ | refine z_iadd (pc := 70) dX8_gainOfFlip_70 ?_ | refine r_iadd (pc := 70) dX8_gainOfFlip_70 ?_
    refine r_istore7 (pc := 71) dX8_gainOfFlip_71 rfl ?_
    exact fin false _ _ (by rw [f2]) (by rw [f1]) (by rw [f1, f2])
theorem s8_turnOn (hI : InvR f z) (hZ : ZOK z) {k : Nat} (hk : k < zt z) : SpecP mX8_turnOn 6 0 0 [.ref a, .int (nI (zF z k))] (rset M a f) (tR (some (.int (iI (tgZ z k)))) M a (turnZ z k)) := by
  have hd := hZ.dims
  have hq := hZ.fq hk
  have hu := hZ.u hk
  refine Spec_of [some (.ref a), some (.int (nI (zF z k))), none] (by decide) (Nat.le_of_ble_eq_true rfl) rfl ?_
  refine r_aload0 (pc := 0) dX8_turnOn_0 ?_
  refine r_iload1 (pc := 1) dX8_turnOn_1 ?_
  refine r_callS2i (pc := 2) lk_X8_94 dX8_turnOn_2 (s8_gainOfTurn mset_same hI hZ hk) (by decide) (Nat.le_of_ble_eq_true rfl) ⟨Nat.zero_le _, Nat.zero_le _⟩ ?_
  refine r_istore2 (pc := 5) dX8_turnOn_5 rfl ?_
  refine r_aload0 (pc := 6) dX8_turnOn_6 ?_
  refine n_sipush (pc := 7) 339 (by decide) dX8_turnOn_7 ?_
  refine r_iload1 (pc := 10) dX8_turnOn_10 ?_
  first | refine n_iadd (pc := 11) dX8_turnOn_11 ?_ | refine z_iadd (pc := 11) dX8_turnOn_11 ?_ | refine r_iadd (pc := 11) dX8_turnOn_11 ?_
  refine n_iconst_1 (pc := 12) dX8_turnOn_12 ?_
  refine r_aload0 (pc := 13) dX8_turnOn_13 ?_
  refine n_sipush (pc := 14) 339 (by decide) dX8_turnOn_14 ?_
  refine r_iload1 (pc := 17) dX8_turnOn_17 ?_
  first | refine n_iadd (pc := 18) dX8_turnOn_18 ?_ | refine z_iadd (pc := 18) dX8_turnOn_18 ?_ | refine r_iadd (pc := 18) dX8_turnOn_18 ?_
  refine n_iald (pc := 19) dX8_turnOn_19 mset_same (by omega) (by decide) (hI.U hk) ?_
  refine n_isub (pc := 20) dX8_turnOn_20 (by omega) ?_
  refine n_iast (pc := 21) dX8_turnOn_21 mset_same (by omega) (by decide) ?_
  refine G_M mset_mset ?_
  have h1 := hI.setU hZ (v := 1 - zU z k) hk
  refine r_aload0 (pc := 22) dX8_turnOn_22 ?_
  refine n_iconst_2 (pc := 23) dX8_turnOn_23 ?_
  refine r_dup2 (pc := 24) dX8_turnOn_24 rfl rfl ?_
  refine n_iald (pc := 25) dX8_turnOn_25 mset_same (by omega) (by decide) rfl ?_
  refine n_iconst_1 (pc := 26) dX8_turnOn_26 ?_
  first | refine n_iadd (pc := 27) dX8_turnOn_27 ?_ | refine z_iadd (pc := 27) dX8_turnOn_27 ?_ | refine r_iadd (pc := 27) dX8_turnOn_27 ?_
  refine n_iast (pc := 28) dX8_turnOn_28 mset_same (by omega) (by decide) ?_
  refine G_M mset_mset ?_
  refine r_iload2 (pc := 29) dX8_turnOn_29 ?_
  exact p_ireturn (pc := 30) false rfl rfl rfl dX8_turnOn_30 (Nat.zero_le _) (Nat.zero_le _) (Or.inl rfl) ⟨rfl, _, h1.chg, rfl⟩
theorem g8_otherOf (hM : M a = some (cI 563 f)) (hI : InvG f z) (hZ : ZOK z) {s o : Nat} (hs : s < zq z) (hL : (f (115 + s) = nI 1 ∧ o = s + 1) ∨ (f (115 + s) = nI 2 ∧ o = s + zc z)) : Spec mX8_otherOf 2 0 0 [.ref a, .int (nI s)] M (some (.int (nI o))) M := by
  have hd := hZ.dims
  refine Spec_of [some (.ref a), some (.int (nI s))] (by decide) (Nat.le_of_ble_eq_true rfl) rfl ?_
  rcases hL with ⟨e1, e2⟩ | ⟨e1, e2⟩
  · refine r_aload0 (pc := 0) dX8_otherOf_0 ?_
    refine n_bipush (pc := 1) 115 (by decide) dX8_otherOf_1 ?_
    refine r_iload1 (pc := 3) dX8_otherOf_3 ?_
    first | refine n_iadd (pc := 4) dX8_otherOf_4 ?_ | refine z_iadd (pc := 4) dX8_otherOf_4 ?_ | refine r_iadd (pc := 4) dX8_otherOf_4 ?_
    refine n_iald (pc := 5) dX8_otherOf_5 hM (by omega) (by decide) e1 ?_
    refine n_iconst_1 (pc := 6) dX8_otherOf_6 ?_
    refine n_icmp_ne (pc := 7) 16 (by decide) dX8_otherOf_7 (by omega) (by omega) (fun hc7 => absurd hc7 (by omega)) (fun hc7 => ?_)
    refine r_iload1 (pc := 10) dX8_otherOf_10 ?_
    refine n_iconst_1 (pc := 11) dX8_otherOf_11 ?_
    first | refine n_iadd (pc := 12) dX8_otherOf_12 ?_ | refine z_iadd (pc := 12) dX8_otherOf_12 ?_ | refine r_iadd (pc := 12) dX8_otherOf_12 ?_
    refine r_goto (pc := 13) 22 (by decide) dX8_otherOf_13 ?_
    exact r_ireturn (pc := 22) false rfl rfl rfl dX8_otherOf_22 (Nat.zero_le _) (Nat.zero_le _) (Or.inl rfl) rfl (by rw [e2]) rfl
  · refine r_aload0 (pc := 0) dX8_otherOf_0 ?_
    refine n_bipush (pc := 1) 115 (by decide) dX8_otherOf_1 ?_
    refine r_iload1 (pc := 3) dX8_otherOf_3 ?_
    first | refine n_iadd (pc := 4) dX8_otherOf_4 ?_ | refine z_iadd (pc := 4) dX8_otherOf_4 ?_ | refine r_iadd (pc := 4) dX8_otherOf_4 ?_
    refine n_iald (pc := 5) dX8_otherOf_5 hM (by omega) (by decide) e1 ?_
    refine n_iconst_1 (pc := 6) dX8_otherOf_6 ?_
    refine n_icmp_ne (pc := 7) 16 (by decide) dX8_otherOf_7 (by omega) (by omega) (fun hc7 => ?_) (fun hc7 => absurd hc7 (by omega))
    refine r_iload1 (pc := 16) dX8_otherOf_16 ?_
    refine r_aload0 (pc := 17) dX8_otherOf_17 ?_
    refine r_callS1i (pc := 18) lk_X8_40 dX8_otherOf_18 (g8_wide hM hI) (by decide) (Nat.le_of_ble_eq_true rfl) ⟨Nat.zero_le _, Nat.zero_le _⟩ ?_
    first | refine n_iadd (pc := 21) dX8_otherOf_21 ?_ | refine z_iadd (pc := 21) dX8_otherOf_21 ?_ | refine r_iadd (pc := 21) dX8_otherOf_21 ?_
    exact r_ireturn (pc := 22) false rfl rfl rfl dX8_otherOf_22 (Nat.zero_le _) (Nat.zero_le _) (Or.inl rfl) rfl (by rw [e2]) rfl
theorem g8_layTile (hI : InvG f z) (hZ : ZOK z) {s o t : Nat} (hs : s < zq z) (ho : o < zq z) (ht : t < zt z) (hL : (f (115 + s) = nI 1 ∧ o = s + 1) ∨ (f (115 + s) = nI 2 ∧ o = s + zc z)) : Spec mX8_layTile 5 0 0 [.ref a, .int (nI s), .int (nI t)] (rset M a f) none (rset M a (upd (upd f (227 + s) (nI t)) (339 + s) (nI (bet z s o t)))) := by
  have hd := hZ.dims
  refine Spec_of [some (.ref a), some (.int (nI s)), some (.int (nI t))] (by decide) (Nat.le_of_ble_eq_true rfl) rfl ?_
  refine r_aload0 (pc := 0) dX8_layTile_0 ?_
  refine n_sipush (pc := 1) 227 (by decide) dX8_layTile_1 ?_
  refine r_iload1 (pc := 4) dX8_layTile_4 ?_
  first | refine n_iadd (pc := 5) dX8_layTile_5 ?_ | refine z_iadd (pc := 5) dX8_layTile_5 ?_ | refine r_iadd (pc := 5) dX8_layTile_5 ?_
  refine r_iload2 (pc := 6) dX8_layTile_6 ?_
  refine n_iast (pc := 7) dX8_layTile_7 mset_same (by omega) (by decide) ?_
  refine G_M mset_mset ?_
  have h1 := hI.upd hZ (i := 227 + s) (v := nI t) (by omega)
  refine r_aload0 (pc := 8) dX8_layTile_8 ?_
  refine n_sipush (pc := 9) 339 (by decide) dX8_layTile_9 ?_
  refine r_iload1 (pc := 12) dX8_layTile_12 ?_
  first | refine n_iadd (pc := 13) dX8_layTile_13 ?_ | refine z_iadd (pc := 13) dX8_layTile_13 ?_ | refine r_iadd (pc := 13) dX8_layTile_13 ?_
  refine r_aload0 (pc := 14) dX8_layTile_14 ?_
  refine r_iload1 (pc := 15) dX8_layTile_15 ?_
  refine r_aload0 (pc := 16) dX8_layTile_16 ?_
  refine r_iload1 (pc := 17) dX8_layTile_17 ?_
  refine r_callS2i (pc := 18) lk_X8_82 dX8_layTile_18 (g8_otherOf mset_same h1 hZ hs (by rw [upd_ne (by omega)]; exact hL)) (by decide) (Nat.le_of_ble_eq_true rfl) ⟨Nat.zero_le _, Nat.zero_le _⟩ ?_
  refine r_iload2 (pc := 21) dX8_layTile_21 ?_
  refine r_callS4i (pc := 22) lk_X8_75 dX8_layTile_22 (g8_bestWay mset_same h1 hZ hs ho ht) (by decide) (Nat.le_of_ble_eq_true rfl) ⟨Nat.zero_le _, Nat.zero_le _⟩ ?_
  refine n_iast (pc := 25) dX8_layTile_25 mset_same (by omega) (by decide) ?_
  refine G_M mset_mset ?_
  exact r_return (pc := 26) false rfl rfl dX8_layTile_26 (Nat.zero_le _) (Nat.zero_le _) (Or.inl rfl) rfl rfl
theorem lay_L (hI : InvR f z) (hZ : ZOK z) {k : Nat} (hk : k < zt z) : (f (115 + zF z k) = nI 1 ∧ zO z k = zF z k + 1) ∨ (f (115 + zF z k) = nI 2 ∧ zO z k = zF z k + zc z) := by
  have h := hI.L hk
  rcases al_iff hZ hk with ⟨a1, a2, a3, a4⟩ | ⟨a1, a2, a4⟩
  · exact Or.inl ⟨by rw [h, a4], a2⟩
  · exact Or.inr ⟨by rw [h, a4], a2⟩
theorem InvR.lay (hI : InvR f z) (hZ : ZOK z) {k t : Nat} (hk : k < zt z) (ht : t < zt z) : InvR (upd (upd f (227 + zF z k) (nI t)) (339 + zF z k) (nI (bet z (zF z k) (zO z k) t))) (layT z k t) := by
  have h1 := hI.setT hZ (v := t) hk
  have hZ1 : ZOK (zset z 3 (ups (zT z) k t)) := hZ.setT (fun s hs => by
    by_cases e : s = k
    · rw [e, ups_same]; exact ht
    · rw [ups_ne e]; exact hZ.t hs)
  have h2 := h1.setU hZ1 (k := k) (v := bet z (zF z k) (zO z k) t) hk
  have e : layT z k t = zset (zset z 3 (ups (zT z) k t)) 4 (ups (zU z) k (bet z (zF z k) (zO z k) t)) := by
    show zset (zset z 3 (ups (zT z) k t)) 4 (ups (zU z) k (bet z (zF z k) (zO z k) (ups (zT z) k t k))) = _
    rw [ups_same]
  rw [e]
  exact h2
end RWRITE

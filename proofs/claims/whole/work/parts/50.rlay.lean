section RLAY
variable {M : Mem} {b : Nat} {S : BS} {z : ZS} {c d : Nat}
def laM (M : Mem) (b : Nat) (S : BS) (d : Nat) (L : Nat → Int32) (f : Nat → Int32) : Mem := kset M b (ia (ia S 6 L) d f)
theorem laM_L (hK : KR c d) {L f : Nat → Int32} : laM M b S d L f (b + 7) = some (cZ 56 L) := by
  rcases hK with ⟨h1, h2⟩ | ⟨h1, h2⟩ <;> subst h1 h2 <;> exact kget rfl
theorem laM_0 {L f : Nat → Int32} : laM M b S d L f b = some (cO 7 [.int (S.1 0), .ref (b + 1), .int (S.1 1), .ref (b + 2), .ref (b + 3), .ref (b + 4), .int (S.1 2), .ref (b + 5), .ref (b + 6), .ref (b + 7), .int (S.1 3), .int (S.1 4), .int (S.1 5), .int (S.1 6), .int (S.1 7)]) := kget0 rfl
theorem laM_R (hK : KR c d) {L f : Nat → Int32} : laM M b S d L f (b + c) = some (cI 563 f) := by
  have h := hK.get (M := M) (b := b) (S := ia (ia S 6 L) d f)
  rw [ia_same] at h
  exact h
theorem laM_sL (hK : KR c d) {L f L' : Nat → Int32} : mset (laM M b S d L f) (b + 7) (cZ 56 L') = laM M b S d L' f := by
  rcases hK with ⟨h1, h2⟩ | ⟨h1, h2⟩ <;> subst h1 h2 <;> exact kset_mset (j := 7) (by decide) rfl
theorem laM_sR (hK : KR c d) {L f f' : Nat → Int32} : rset (laM M b S d L f) (b + c) f' = laM M b S d L f' := by
  have h := hK.set (M := M) (b := b) (S := ia (ia S 6 L) d f) (f := f')
  rw [ia_ia] at h
  exact h
theorem laM_eq (hK : KR c d) {L f f' : Nat → Int32} {y : MI} {d' : Nat} {as : List Value} {r : Option Value} (hs : Spec y d' 0 0 as (rset (laM M b S d L f) (b + c) f) r (rset (laM M b S d L f) (b + c) f')) : Spec y d' 0 0 as (laM M b S d L f) r (laM M b S d L f') := by
  rw [laM_sR hK, laM_sR hK] at hs
  exact hs
theorem laM_of : kset M b S = laM M b S d (S.2 6) (S.2 d) := by
  unfold laM
  rw [ia_self S 6, ia_self S d]
/-- the tiles that are left -/
def LB (L : Nat → Int32) (z : ZS) (g : Nat → Nat) : Prop := ∀ t, t < zt z → L t = bI (decide (g t ≠ 0))
theorem LB.set {L : Nat → Int32} {z : ZS} {g : Nat → Nat} (h : LB L z g) {t v : Nat} (hv : v ≤ 1) : LB (upd L t (bI (decide (v ≠ 0)))) z (ups g t v) := by
  intro s hs
  by_cases e : s = t
  · rw [e, upd_same, ups_same]
  · rw [upd_ne e, ups_ne e]; exact h s hs
set_option maxRecDepth 20000 in
set_option maxHeartbeats 1600000 in
theorem s8_layAll (hK : KR c d) (hI : InvR (S.2 d) z) (hZ : ZOK z) (hT : TOK z) : SpecP mX8_layAll 6 0 0 [.ref b, .ref (b + c)] (kset M b S) (tP (some (.int (iI (erAll z - erAll (layZ z))))) (fun Mf => ∃ L f', InvR f' (layZ z) ∧ Mf = laM M b S d L f')) := by
  have hd := hZ.dims
  rw [laM_of (d := d)]
  generalize S.2 6 = L0
  generalize S.2 d = f0 at hI
  refine Spec_of [some (.ref b), some (.ref (b + c)), none, none, none, none, none, none, none] (by decide) (Nat.le_of_ble_eq_true rfl) rfl ?_
  refine r_aload1 (pc := 0) dX8_layAll_0 ?_
  refine r_callS1i (pc := 1) lk_X8_146 dX8_layAll_1 (s8_wholeError (laM_R hK) hI hZ) (by decide) (Nat.le_of_ble_eq_true rfl) ⟨Nat.zero_le _, Nat.zero_le _⟩ ?_
  refine r_istore2 (pc := 4) dX8_layAll_4 rfl ?_
  refine n_iconst_0 (pc := 5) dX8_layAll_5 ?_
  refine r_istore3 (pc := 6) dX8_layAll_6 rfl ?_
  refine up_to (N := zt z) (k := 0) (fun t => ∀ L, (∀ j, j < t → L j = bI false) →
    G mX8_layAll 6 (.inl false) 0 0 (tP (some (.int (iI (erAll z - erAll (layZ z))))) (fun Mf => ∃ L f', InvR f' (layZ z) ∧ Mf = laM M b S d L f')) none 0 0 7 [some (.ref b), some (.ref (b + c)), some (.int (iI (erAll z))), some (.int (nI t)), none, none, none, none, none] [] (laM M b S d L f0)
    ) (fun L hL => ?_) (fun t ht ih L hL => ?_) (Nat.zero_le _) L0 (fun j hj => absurd hj (Nat.not_lt_zero _))
  · refine r_iload3 (pc := 7) dX8_layAll_7 ?_
    refine r_aload1 (pc := 8) dX8_layAll_8 ?_
    refine r_callS1i (pc := 9) lk_X8_54 dX8_layAll_9 (s8_tiles (laM_R hK) hI hZ) (by decide) (Nat.le_of_ble_eq_true rfl) ⟨Nat.zero_le _, Nat.zero_le _⟩ ?_
    refine n_icmp_ge (pc := 12) 28 (by decide) dX8_layAll_12 (by omega) (by omega) (fun hc12 => ?_) (fun hc12 => absurd hc12 (by omega))
    refine n_iconst_0 (pc := 28) dX8_layAll_28 ?_
    refine r_istore3 (pc := 29) dX8_layAll_29 rfl ?_
    refine up_to (N := zq z) (k := 0) (fun s => ∀ L, LB L z (lfF z (cnt z s)) →
      G mX8_layAll 6 (.inl false) 0 0 (tP (some (.int (iI (erAll z - erAll (layZ z))))) (fun Mf => ∃ L f', InvR f' (layZ z) ∧ Mf = laM M b S d L f')) none 0 0 30 [some (.ref b), some (.ref (b + c)), some (.int (iI (erAll z))), some (.int (nI s)), none, none, none, none, none] [] (laM M b S d L f0)
      ) (fun L hL => ?_) (fun s hs ih L hL => ?_) (Nat.zero_le _) L (fun t ht => hL t ht)
    · rw [cnt_end hZ] at hL
      refine r_iload3 (pc := 30) dX8_layAll_30 ?_
      refine r_aload1 (pc := 31) dX8_layAll_31 ?_
      refine r_callS1i (pc := 32) lk_X8_47 dX8_layAll_32 (s8_squares (laM_R hK) hI) (by decide) (Nat.le_of_ble_eq_true rfl) ⟨Nat.zero_le _, Nat.zero_le _⟩ ?_
      refine n_icmp_ge (pc := 35) 76 (by decide) dX8_layAll_35 (by omega) (by omega) (fun hc35 => ?_) (fun hc35 => absurd hc35 (by omega))
      refine n_iconst_0 (pc := 76) dX8_layAll_76 ?_
      refine r_istore3 (pc := 77) dX8_layAll_77 rfl ?_
      refine up_to (N := zq z) (k := 0) (fun s => ∀ L f a4 a5 a6 a7 a8, nc a4 = true → nc a5 = true → nc a6 = true → nc a7 = true → InvR f (laF z (cnt z s)).1 → LB L z (laF z (cnt z s)).2 →
        G mX8_layAll 6 (.inl false) 0 0 (tP (some (.int (iI (erAll z - erAll (layZ z))))) (fun Mf => ∃ L f', InvR f' (layZ z) ∧ Mf = laM M b S d L f')) none 0 0 78 [some (.ref b), some (.ref (b + c)), some (.int (iI (erAll z))), some (.int (nI s)), a4, a5, a6, a7, a8] [] (laM M b S d L f)
        ) (fun L f a4 a5 a6 a7 a8 n4 n5 n6 n7 hI hL => ?_) (fun s hs ih L f a4 a5 a6 a7 a8 n4 n5 n6 n7 hI hL => ?_) (Nat.zero_le _) L f0 none none none none none rfl rfl rfl rfl hI hL
      · rw [cnt_end hZ] at hI
        obtain ⟨k1, k2, k3, k4, k5⟩ := laF_keep hZ (zt z) (Nat.le_refl _)
        have hq : Spec mX8_squares 2 0 0 [.ref (b + c)] (laM M b S d L f) (some (.int (nI (zq z)))) (laM M b S d L f) := by
          have h := s8_squares (laM_R (M := M) (b := b) (S := S) (L := L) hK) hI
          rw [show zq (laF z (zt z)).1 = zq z by unfold zq zc zr; rw [k2, k3]] at h
          exact h
        refine r_iload3 (pc := 78) dX8_layAll_78 ?_
        refine r_aload1 (pc := 79) dX8_layAll_79 ?_
        refine r_callS1i (pc := 80) lk_X8_47 dX8_layAll_80 hq (by decide) (Nat.le_of_ble_eq_true rfl) ⟨Nat.zero_le _, Nat.zero_le _⟩ ?_
        refine n_icmp_ge (pc := 83) 236 (by decide) dX8_layAll_83 (by omega) (by omega) (fun hc83 => ?_) (fun hc83 => absurd hc83 (by omega))
        refine r_iload2 (pc := 236) dX8_layAll_236 ?_
        refine r_aload1 (pc := 237) dX8_layAll_237 ?_
        refine r_callS1i (pc := 238) lk_X8_146 dX8_layAll_238 (s8_wholeError (z := layZ z) (laM_R hK) hI k1) (by decide) (Nat.le_of_ble_eq_true rfl) ⟨Nat.zero_le _, Nat.zero_le _⟩ ?_
        first | refine n_isubI (pc := 241) dX8_layAll_241 ?_ | refine z_isub (pc := 241) dX8_layAll_241 ?_ | refine r_isub (pc := 241) dX8_layAll_241 ?_
        exact p_ireturn (pc := 242) false rfl rfl rfl dX8_layAll_242 (Nat.zero_le _) (Nat.zero_le _) (Or.inl rfl) ⟨rfl, L, f, hI, rfl⟩
      · obtain ⟨k1, k2, k3, k4, k5⟩ := laF_keep hZ (cnt z s) (cnt_le hZ s)
        have ezt : zt (laF z (cnt z s)).1 = zt z := zt_same k2 k3
        have ezq : zq (laF z (cnt z s)).1 = zq z := by unfold zq zc zr; rw [k2, k3]
        have hq : Spec mX8_squares 2 0 0 [.ref (b + c)] (laM M b S d L f) (some (.int (nI (zq z)))) (laM M b S d L f) := by
          have h := s8_squares (laM_R (M := M) (b := b) (S := S) (L := L) hK) hI
          rw [ezq] at h
          exact h
        have hFa : ∀ n, n ≤ zt z → ∀ k, zF (laF z n).1 k = zF z k ∧ zO (laF z n).1 k = zO z k := by
          intro n
          induction n with
          | zero => intro _ k; exact ⟨rfl, rfl⟩
          | succ n ihn =>
            intro hn k
            obtain ⟨q1, q2⟩ := ihn (by omega) k
            unfold laF
            split
            · unfold laS
              split
              · exact ⟨q1, q2⟩
              · exact ⟨q1, q2⟩
            · exact ⟨q1, q2⟩
        have hFa := hFa (cnt z s) (cnt_le hZ s)
        refine G_fgt 8 (G_fgt 7 (G_fgt 6 (G_fgt 5 (G_fgt 4 ?_))))
        rcases sq_cases hZ s with ⟨k, hk, ek, c1, c2⟩ | ⟨hn, c2⟩
        · subst ek
          rw [c1] at hI hL k1 ezt ezq hFa k5
          rw [c2] at ih
          generalize hw : (laF z k).1 = w at *
          have hkw : k < zt w := by omega
          have hqk := k1.fq hkw
          have hlp := lz_pos w k
          have hhk := k1.h hkw
          have eF : zF z k = zF w k := (hFa k).1.symm
          rw [eF] at ih ⊢
          have hLk := hI.L hkw
          have hHk := hI.H hkw
          have nxt : ∀ L f a4 a5 a6 a7 a8, nc a4 = true → nc a5 = true → nc a6 = true → nc a7 = true → InvR f (laF z (k + 1)).1 → LB L z (laF z (k + 1)).2 →
            G mX8_layAll 6 (.inl false) 0 0 (tP (some (.int (iI (erAll z - erAll (layZ z))))) (fun Mf => ∃ L f', InvR f' (layZ z) ∧ Mf = laM M b S d L f')) none 0 0 230 [some (.ref b), some (.ref (b + c)), some (.int (iI (erAll z))), some (.int (nI (zF w k))), a4, a5, a6, a7, a8] [] (laM M b S d L f)
            := by
            intro L f a4 a5 a6 a7 a8 n4 n5 n6 n7 hI hL
            refine n_iinc3 (pc := 230) dX8_layAll_230 rfl ?_
            refine r_goto (pc := 233) 78 (by decide) dX8_layAll_233 ?_
            exact ih L f a4 a5 a6 a7 a8 n4 n5 n6 n7 hI hL
          refine r_iload3 (pc := 78) dX8_layAll_78 ?_
          refine r_aload1 (pc := 79) dX8_layAll_79 ?_
          refine r_callS1i (pc := 80) lk_X8_47 dX8_layAll_80 hq (by decide) (Nat.le_of_ble_eq_true rfl) ⟨Nat.zero_le _, Nat.zero_le _⟩ ?_
          refine n_icmp_ge (pc := 83) 236 (by decide) dX8_layAll_83 (by omega) (by omega) (fun hc83 => absurd hc83 (by omega)) (fun hc83 => ?_)
          refine r_aload1 (pc := 86) dX8_layAll_86 ?_
          refine n_bipush (pc := 87) 115 (by decide) dX8_layAll_87 ?_
          refine r_iload3 (pc := 89) dX8_layAll_89 ?_
          first | refine n_iadd (pc := 90) dX8_layAll_90 ?_ | refine z_iadd (pc := 90) dX8_layAll_90 ?_ | refine r_iadd (pc := 90) dX8_layAll_90 ?_
          refine n_iald (pc := 91) dX8_layAll_91 (laM_R hK) (by omega) (by decide) hLk ?_
          refine n_if_le (pc := 92) 230 (by decide) dX8_layAll_92 (by omega) (fun h9 => absurd h9 (by omega)) (fun _ => ?_)
          refine r_aload1 (pc := 95) dX8_layAll_95 ?_
          refine n_sipush (pc := 96) 451 (by decide) dX8_layAll_96 ?_
          refine r_iload3 (pc := 99) dX8_layAll_99 ?_
          first | refine n_iadd (pc := 100) dX8_layAll_100 ?_ | refine z_iadd (pc := 100) dX8_layAll_100 ?_ | refine r_iadd (pc := 100) dX8_layAll_100 ?_
          refine n_iald (pc := 101) dX8_layAll_101 (laM_R hK) (by omega) (by decide) hHk ?_
          refine n_if_ne (pc := 102) 230 (by decide) dX8_layAll_102 (by omega) (fun h9 => ?_) (fun h9 => ?_)
          · refine nxt L f none none none none none rfl rfl rfl rfl ?_ ?_
            · rw [show laF z (k + 1) = laF z k from if_neg (by rw [← k5]; exact h9), hw]; exact hI
            · rw [show laF z (k + 1) = laF z k from if_neg (by rw [← k5]; exact h9)]; exact hL
          · rw [k5] at h9
            obtain ⟨bt, l1, l2, l3⟩ := la_best hZ hT hk h9
            rw [hw] at l1 l3
            refine r_iconst_m1 (pc := 105) dX8_layAll_105 ?_
            refine r_istore4 (pc := 106) dX8_layAll_106 rfl ?_
            refine n_iconst_0 (pc := 108) dX8_layAll_108 ?_
            refine r_istore5 (pc := 109) dX8_layAll_109 rfl ?_
            refine n_iconst_0 (pc := 111) dX8_layAll_111 ?_
            refine r_istore6 (pc := 112) dX8_layAll_112 rfl ?_
            refine up_to (N := zt z) (k := 0) (fun t => ∀ a7 a8, nc a7 = true →
              G mX8_layAll 6 (.inl false) 0 0 (tP (some (.int (iI (erAll z - erAll (layZ z))))) (fun Mf => ∃ L f', InvR f' (layZ z) ∧ Mf = laM M b S d L f')) none 0 0 114 [some (.ref b), some (.ref (b + c)), some (.int (iI (erAll z))), some (.int (nI (zF w k))), some (.int (oI (blF w (laF z k).2 k t))), some (.int (iI (blV w (laF z k).2 k t))), some (.int (nI t)), a7, a8] [] (laM M b S d L f)
              ) (fun a7 a8 n7 => ?_) (fun t ht ih2 a7 a8 n7 => ?_) (Nat.zero_le _) none none rfl
            · rw [l1]
              have htw : Spec mX8_tiles 3 0 0 [.ref (b + c)] (laM M b S d L f) (some (.int (nI (zt z)))) (laM M b S d L f) := by
                have h := s8_tiles (laM_R (M := M) (b := b) (S := S) (L := L) hK) hI k1
                rw [ezt] at h
                exact h
              rw [oI_some]
              refine r_iload6 (pc := 114) dX8_layAll_114 ?_
              refine r_aload1 (pc := 116) dX8_layAll_116 ?_
              refine r_callS1i (pc := 117) lk_X8_54 dX8_layAll_117 htw (by decide) (Nat.le_of_ble_eq_true rfl) ⟨Nat.zero_le _, Nat.zero_le _⟩ ?_
              refine n_icmp_ge (pc := 120) 215 (by decide) dX8_layAll_120 (by omega) (by omega) (fun hc120 => ?_) (fun hc120 => absurd hc120 (by omega))
              refine r_aload0 (pc := 215) dX8_layAll_215 ?_
              refine r_getf (pc := 216) fl_X8_29 dX8_layAll_216 laM_0 rfl ?_
              refine r_iload4 (pc := 219) dX8_layAll_219 ?_
              refine n_iconst_0 (pc := 221) dX8_layAll_221 ?_
              refine n_zast (pc := 222) dX8_layAll_222 (laM_L hK) (by omega) (by decide) ?_
              rw [nar_bo0]
              refine G_M (laM_sL hK) ?_
              have hlt := laM_eq hK (g8_layTile (M := laM M b S d (upd L bt (bI false)) f) (a := b + c) hI.toG k1 (k1.fq hkw) (k1.oq hkw) (t := bt) (by omega) (lay_L hI k1 hkw))
              refine r_aload1 (pc := 223) dX8_layAll_223 ?_
              refine r_iload3 (pc := 224) dX8_layAll_224 ?_
              refine r_iload4 (pc := 225) dX8_layAll_225 ?_
              refine r_callS3v (pc := 227) lk_X8_100 dX8_layAll_227 hlt (by decide) (Nat.le_of_ble_eq_true rfl) ⟨Nat.zero_le _, Nat.zero_le _⟩ ?_
              refine nxt _ _ _ _ _ _ _ rfl rfl rfl n7 ?_ ?_
              · rw [l3]; exact hI.lay k1 hkw (by omega)
              · rw [l3]; exact LB.set hL (v := 0) (by omega)
            · have htw : Spec mX8_tiles 3 0 0 [.ref (b + c)] (laM M b S d L f) (some (.int (nI (zt z)))) (laM M b S d L f) := by
                have h := s8_tiles (laM_R (M := M) (b := b) (S := S) (L := L) hK) hI k1
                rw [ezt] at h
                exact h
              have b1 : 0 ≤ lwk w t k ∧ lwk w t k ≤ 19602 := k1.lwB (k1.fq hkw) (k1.oq hkw) (by omega)
              have e : blF w (laF z k).2 k (t + 1) = if (laF z k).2 t = 0 then blF w (laF z k).2 k t else match blF w (laF z k).2 k t with
                | none => some t
                | some m => if lwk w t k < lwk w m k then some t else some m := rfl
              have ev : blV w (laF z k).2 k (t + 1) = match blF w (laF z k).2 k (t + 1) with
                | none => 0
                | some m => lwk w m k := rfl
              have ev0 : blV w (laF z k).2 k t = match blF w (laF z k).2 k t with
                | none => 0
                | some m => lwk w m k := rfl
              have stp2 : ∀ (be : Bool) (er9 : Int) (o : Option Nat) (x : Int), (if be then (some t, er9) else (o, x)) = (blF w (laF z k).2 k (t + 1), blV w (laF z k).2 k (t + 1)) →
                G mX8_layAll 6 (.inl false) 0 0 (tP (some (.int (iI (erAll z - erAll (layZ z))))) (fun Mf => ∃ L f', InvR f' (layZ z) ∧ Mf = laM M b S d L f')) none 0 0 179 [some (.ref b), some (.ref (b + c)), some (.int (iI (erAll z))), some (.int (nI (zF w k))), some (.int (oI o)), some (.int (iI x)), some (.int (nI t)), some (.int (iI er9)), none] [.int (bI be)] (laM M b S d L f)
                := by
                intro be er9 o x hbe
                cases be with
                | true =>
                  have h1 := congrArg Prod.fst hbe
                  have h2 := congrArg Prod.snd hbe
                  have h1 : some t = blF w (laF z k).2 k (t + 1) := h1
                  have h2 : er9 = blV w (laF z k).2 k (t + 1) := h2
                  refine r_istore8 (pc := 179) dX8_layAll_179 rfl ?_
                  refine r_iload8 (pc := 181) dX8_layAll_181 ?_
                  refine b_if_eq (b := true) (pc := 183) 191 (by decide) dX8_layAll_183 (fun h9 => by cases h9) (fun _ => ?_)
                  refine r_iload6 (pc := 186) dX8_layAll_186 ?_
                  refine r_goto (pc := 188) 193 (by decide) dX8_layAll_188 ?_
                  refine r_istore4 (pc := 193) dX8_layAll_193 rfl ?_
                  refine r_iload8 (pc := 195) dX8_layAll_195 ?_
                  refine b_if_eq (b := true) (pc := 197) 205 (by decide) dX8_layAll_197 (fun h9 => by cases h9) (fun _ => ?_)
                  refine r_iload7 (pc := 200) dX8_layAll_200 ?_
                  refine r_goto (pc := 202) 207 (by decide) dX8_layAll_202 ?_
                  refine r_istore5 (pc := 207) dX8_layAll_207 rfl ?_
                  refine n_iinc6 (pc := 209) dX8_layAll_209 rfl ?_
                  refine r_goto (pc := 212) 114 (by decide) dX8_layAll_212 ?_
                  have h := ih2 (some (.int (iI er9))) (some (.int (bI true))) rfl
                  rw [← h1, ← h2] at h
                  exact h
                | false =>
                  have h1 := congrArg Prod.fst hbe
                  have h2 := congrArg Prod.snd hbe
                  have h1 : o = blF w (laF z k).2 k (t + 1) := h1
                  have h2 : x = blV w (laF z k).2 k (t + 1) := h2
                  refine r_istore8 (pc := 179) dX8_layAll_179 rfl ?_
                  refine r_iload8 (pc := 181) dX8_layAll_181 ?_
                  refine b_if_eq (b := false) (pc := 183) 191 (by decide) dX8_layAll_183 (fun _ => ?_) (fun h9 => by cases h9)
                  refine r_iload4 (pc := 191) dX8_layAll_191 ?_
                  refine r_istore4 (pc := 193) dX8_layAll_193 rfl ?_
                  refine r_iload8 (pc := 195) dX8_layAll_195 ?_
                  refine b_if_eq (b := false) (pc := 197) 205 (by decide) dX8_layAll_197 (fun _ => ?_) (fun h9 => by cases h9)
                  refine r_iload5 (pc := 205) dX8_layAll_205 ?_
                  refine r_istore5 (pc := 207) dX8_layAll_207 rfl ?_
                  refine n_iinc6 (pc := 209) dX8_layAll_209 rfl ?_
                  refine r_goto (pc := 212) 114 (by decide) dX8_layAll_212 ?_
                  have h := ih2 (some (.int (iI er9))) (some (.int (bI false))) rfl
                  rw [← h1, ← h2] at h
                  exact h
              refine G_fgt 7 (G_fgt 8 ?_)
              have hLt := hL t ht
              by_cases h0 : (laF z k).2 t = 0
              · rw [if_pos h0] at e
                rw [e, ← ev0] at ev
                rw [decide_eq_false (fun q => q h0)] at hLt
                refine r_iload6 (pc := 114) dX8_layAll_114 ?_
                refine r_aload1 (pc := 116) dX8_layAll_116 ?_
                refine r_callS1i (pc := 117) lk_X8_54 dX8_layAll_117 htw (by decide) (Nat.le_of_ble_eq_true rfl) ⟨Nat.zero_le _, Nat.zero_le _⟩ ?_
                refine n_icmp_ge (pc := 120) 215 (by decide) dX8_layAll_120 (by omega) (by omega) (fun hc120 => absurd hc120 (by omega)) (fun hc120 => ?_)
                refine r_aload0 (pc := 123) dX8_layAll_123 ?_
                refine r_getf (pc := 124) fl_X8_29 dX8_layAll_124 laM_0 rfl ?_
                refine r_iload6 (pc := 127) dX8_layAll_127 ?_
                refine n_zald (pc := 129) dX8_layAll_129 (laM_L hK) (by omega) (by decide) hLt ?_
                refine b_if_eq (b := false) (pc := 130) 148 (by decide) dX8_layAll_130 (fun _ => ?_) (fun h9 => by cases h9)
                refine n_iconst_0 (pc := 148) dX8_layAll_148 ?_
                refine r_istore7 (pc := 149) dX8_layAll_149 rfl ?_
                refine r_aload0 (pc := 151) dX8_layAll_151 ?_
                refine r_getf (pc := 152) fl_X8_29 dX8_layAll_152 laM_0 rfl ?_
                refine r_iload6 (pc := 155) dX8_layAll_155 ?_
                refine n_zald (pc := 157) dX8_layAll_157 (laM_L hK) (by omega) (by decide) hLt ?_
                refine b_if_eq (b := false) (pc := 158) 178 (by decide) dX8_layAll_158 (fun _ => ?_) (fun h9 => by cases h9)
                refine n_iconst_0 (pc := 178) dX8_layAll_178 ?_
                exact stp2 false 0 _ _ (by rw [e, ev]; rfl)
              · rw [if_neg h0] at e
                rw [decide_eq_true h0] at hLt
                refine r_iload6 (pc := 114) dX8_layAll_114 ?_
                refine r_aload1 (pc := 116) dX8_layAll_116 ?_
                refine r_callS1i (pc := 117) lk_X8_54 dX8_layAll_117 htw (by decide) (Nat.le_of_ble_eq_true rfl) ⟨Nat.zero_le _, Nat.zero_le _⟩ ?_
                refine n_icmp_ge (pc := 120) 215 (by decide) dX8_layAll_120 (by omega) (by omega) (fun hc120 => absurd hc120 (by omega)) (fun hc120 => ?_)
                refine r_aload0 (pc := 123) dX8_layAll_123 ?_
                refine r_getf (pc := 124) fl_X8_29 dX8_layAll_124 laM_0 rfl ?_
                refine r_iload6 (pc := 127) dX8_layAll_127 ?_
                refine n_zald (pc := 129) dX8_layAll_129 (laM_L hK) (by omega) (by decide) hLt ?_
                refine b_if_eq (b := true) (pc := 130) 148 (by decide) dX8_layAll_130 (fun h9 => by cases h9) (fun _ => ?_)
                refine r_aload1 (pc := 133) dX8_layAll_133 ?_
                refine r_iload3 (pc := 134) dX8_layAll_134 ?_
                refine r_aload1 (pc := 135) dX8_layAll_135 ?_
                refine r_iload3 (pc := 136) dX8_layAll_136 ?_
                refine r_callS2i (pc := 137) lk_X8_82 dX8_layAll_137 (s8_otherOf (laM_R hK) hI k1 hkw) (by decide) (Nat.le_of_ble_eq_true rfl) ⟨Nat.zero_le _, Nat.zero_le _⟩ ?_
                refine r_iload6 (pc := 140) dX8_layAll_140 ?_
                refine r_callS4i (pc := 142) lk_X8_88 dX8_layAll_142 (s8_bestError (laM_R hK) hI k1 (k1.fq hkw) (k1.oq hkw) (by omega)) (by decide) (Nat.le_of_ble_eq_true rfl) ⟨Nat.zero_le _, Nat.zero_le _⟩ ?_
                refine r_goto (pc := 145) 149 (by decide) dX8_layAll_145 ?_
                refine r_istore7 (pc := 149) dX8_layAll_149 rfl ?_
                refine r_aload0 (pc := 151) dX8_layAll_151 ?_
                refine r_getf (pc := 152) fl_X8_29 dX8_layAll_152 laM_0 rfl ?_
                refine r_iload6 (pc := 155) dX8_layAll_155 ?_
                refine n_zald (pc := 157) dX8_layAll_157 (laM_L hK) (by omega) (by decide) hLt ?_
                refine b_if_eq (b := true) (pc := 158) 178 (by decide) dX8_layAll_158 (fun h9 => by cases h9) (fun _ => ?_)
                refine r_iload4 (pc := 161) dX8_layAll_161 ?_
                refine r_iconst_m1 (pc := 163) dX8_layAll_163 ?_
                cases hq9 : blF w (laF z k).2 k t with
                | none =>
                  rw [hq9] at e
                  have e : blF w (laF z k).2 k (t + 1) = some t := e
                  rw [e] at ev
                  have ev : blV w (laF z k).2 k (t + 1) = lwk w t k := ev
                  refine r_icmp_eq (pc := 164) 174 (by decide) dX8_layAll_164 (fun _ => ?_) (fun h9 => absurd rfl h9)
                  refine n_iconst_1 (pc := 174) dX8_layAll_174 ?_
                  refine r_goto (pc := 175) 179 (by decide) dX8_layAll_175 ?_
                  exact stp2 true _ none _ (by rw [e, ev]; rfl)
                | some m =>
                  rw [hq9] at e ev0
                  have hm := (blF_lt _ hq9).1
                  have b2 : 0 ≤ lwk w m k ∧ lwk w m k ≤ 19602 := k1.lwB (k1.fq hkw) (k1.oq hkw) (by omega)
                  have ev1 : blV w (laF z k).2 k t = lwk w m k := ev0
                  have e : blF w (laF z k).2 k (t + 1) = if lwk w t k < lwk w m k then some t else some m := e
                  refine r_icmp_eq (pc := 164) 174 (by decide) dX8_layAll_164 (fun h9 => absurd h9 (nI_ne_m1 (by omega))) (fun _ => ?_)
                  refine r_iload7 (pc := 167) dX8_layAll_167 ?_
                  refine r_iload5 (pc := 169) dX8_layAll_169 ?_
                  rw [ev1]
                  change G mX8_layAll 6 (.inl false) 0 0 _ none 0 0 171 _ [.int (iI (lwk w m k)), .int (iI (lwk w t k))] _
                  refine z_icmp_ge (pc := 171) 178 (by decide) dX8_layAll_171 (by omega) (by omega) (by omega) (by omega) (fun h8 => ?_) (fun h8 => ?_)
                  · rw [if_neg (by omega)] at e
                    rw [e] at ev
                    have ev : blV w (laF z k).2 k (t + 1) = lwk w m k := ev
                    refine n_iconst_0 (pc := 178) dX8_layAll_178 ?_
                    exact stp2 false _ (some m) _ (by rw [e, ev]; rfl)
                  · rw [if_pos h8] at e
                    rw [e] at ev
                    have ev : blV w (laF z k).2 k (t + 1) = lwk w t k := ev
                    refine n_iconst_1 (pc := 174) dX8_layAll_174 ?_
                    refine r_goto (pc := 175) 179 (by decide) dX8_layAll_175 ?_
                    exact stp2 true _ (some m) _ (by rw [e, ev]; rfl)
        · rw [c2] at ih
          have hnw : ∀ k, k < zt (laF z (cnt z s)).1 → zF (laF z (cnt z s)).1 k ≠ s := fun k hk => by rw [(hFa k).1]; exact hn k (by omega)
          refine r_iload3 (pc := 78) dX8_layAll_78 ?_
          refine r_aload1 (pc := 79) dX8_layAll_79 ?_
          refine r_callS1i (pc := 80) lk_X8_47 dX8_layAll_80 hq (by decide) (Nat.le_of_ble_eq_true rfl) ⟨Nat.zero_le _, Nat.zero_le _⟩ ?_
          refine n_icmp_ge (pc := 83) 236 (by decide) dX8_layAll_83 (by omega) (by omega) (fun hc83 => absurd hc83 (by omega)) (fun hc83 => ?_)
          refine r_aload1 (pc := 86) dX8_layAll_86 ?_
          refine n_bipush (pc := 87) 115 (by decide) dX8_layAll_87 ?_
          refine r_iload3 (pc := 89) dX8_layAll_89 ?_
          first | refine n_iadd (pc := 90) dX8_layAll_90 ?_ | refine z_iadd (pc := 90) dX8_layAll_90 ?_ | refine r_iadd (pc := 90) dX8_layAll_90 ?_
          refine n_iald (pc := 91) dX8_layAll_91 (laM_R hK) (by omega) (by decide) (hI.Z (by omega) hnw) ?_
          refine n_if_le (pc := 92) 230 (by decide) dX8_layAll_92 (by omega) (fun _ => ?_) (fun h9 => absurd h9 (by omega))
          refine n_iinc3 (pc := 230) dX8_layAll_230 rfl ?_
          refine r_goto (pc := 233) 78 (by decide) dX8_layAll_233 ?_
          exact ih L f none none none none none rfl rfl rfl rfl hI hL
    · rcases sq_cases hZ s with ⟨k, hk, ek, c1, c2⟩ | ⟨hn, c2⟩
      · subst ek
        have hlp := lz_pos z k
        have hhk := hZ.h hk
        have htk := hZ.t hk
        rw [c2] at ih
        rw [c1] at hL
        refine r_iload3 (pc := 30) dX8_layAll_30 ?_
        refine r_aload1 (pc := 31) dX8_layAll_31 ?_
        refine r_callS1i (pc := 32) lk_X8_47 dX8_layAll_32 (s8_squares (laM_R hK) hI) (by decide) (Nat.le_of_ble_eq_true rfl) ⟨Nat.zero_le _, Nat.zero_le _⟩ ?_
        refine n_icmp_ge (pc := 35) 76 (by decide) dX8_layAll_35 (by omega) (by omega) (fun hc35 => absurd hc35 (by omega)) (fun hc35 => ?_)
        refine r_aload1 (pc := 38) dX8_layAll_38 ?_
        refine n_bipush (pc := 39) 115 (by decide) dX8_layAll_39 ?_
        refine r_iload3 (pc := 41) dX8_layAll_41 ?_
        first | refine n_iadd (pc := 42) dX8_layAll_42 ?_ | refine z_iadd (pc := 42) dX8_layAll_42 ?_ | refine r_iadd (pc := 42) dX8_layAll_42 ?_
        refine n_iald (pc := 43) dX8_layAll_43 (laM_R hK) (by omega) (by decide) (hI.L hk) ?_
        refine n_if_le (pc := 44) 70 (by decide) dX8_layAll_44 (by omega) (fun h9 => absurd h9 (by omega)) (fun _ => ?_)
        refine r_aload1 (pc := 47) dX8_layAll_47 ?_
        refine n_sipush (pc := 48) 451 (by decide) dX8_layAll_48 ?_
        refine r_iload3 (pc := 51) dX8_layAll_51 ?_
        first | refine n_iadd (pc := 52) dX8_layAll_52 ?_ | refine z_iadd (pc := 52) dX8_layAll_52 ?_ | refine r_iadd (pc := 52) dX8_layAll_52 ?_
        refine n_iald (pc := 53) dX8_layAll_53 (laM_R hK) (by omega) (by decide) (hI.H hk) ?_
        refine n_if_ne (pc := 54) 70 (by decide) dX8_layAll_54 (by omega) (fun h9 => ?_) (fun h9 => ?_)
        · refine n_iinc3 (pc := 70) dX8_layAll_70 rfl ?_
          refine r_goto (pc := 73) 30 (by decide) dX8_layAll_73 ?_
          refine ih L ?_
          rw [show lfF z (k + 1) = lfF z k from if_neg h9]; exact hL
        · refine r_aload0 (pc := 57) dX8_layAll_57 ?_
          refine r_getf (pc := 58) fl_X8_29 dX8_layAll_58 laM_0 rfl ?_
          refine r_aload1 (pc := 61) dX8_layAll_61 ?_
          refine n_sipush (pc := 62) 227 (by decide) dX8_layAll_62 ?_
          refine r_iload3 (pc := 65) dX8_layAll_65 ?_
          first | refine n_iadd (pc := 66) dX8_layAll_66 ?_ | refine z_iadd (pc := 66) dX8_layAll_66 ?_ | refine r_iadd (pc := 66) dX8_layAll_66 ?_
          refine n_iald (pc := 67) dX8_layAll_67 (laM_R hK) (by omega) (by decide) (hI.T hk) ?_
          refine n_iconst_1 (pc := 68) dX8_layAll_68 ?_
          refine n_zast (pc := 69) dX8_layAll_69 (laM_L hK) (by omega) (by decide) ?_
          rw [nar_bo1]
          refine G_M (laM_sL hK) ?_
          refine n_iinc3 (pc := 70) dX8_layAll_70 rfl ?_
          refine r_goto (pc := 73) 30 (by decide) dX8_layAll_73 ?_
          refine ih _ ?_
          rw [show lfF z (k + 1) = ups (lfF z k) (zT z k) 1 from if_pos h9]
          exact LB.set hL (v := 1) (by omega)
      · rw [c2] at ih
        refine r_iload3 (pc := 30) dX8_layAll_30 ?_
        refine r_aload1 (pc := 31) dX8_layAll_31 ?_
        refine r_callS1i (pc := 32) lk_X8_47 dX8_layAll_32 (s8_squares (laM_R hK) hI) (by decide) (Nat.le_of_ble_eq_true rfl) ⟨Nat.zero_le _, Nat.zero_le _⟩ ?_
        refine n_icmp_ge (pc := 35) 76 (by decide) dX8_layAll_35 (by omega) (by omega) (fun hc35 => absurd hc35 (by omega)) (fun hc35 => ?_)
        refine r_aload1 (pc := 38) dX8_layAll_38 ?_
        refine n_bipush (pc := 39) 115 (by decide) dX8_layAll_39 ?_
        refine r_iload3 (pc := 41) dX8_layAll_41 ?_
        first | refine n_iadd (pc := 42) dX8_layAll_42 ?_ | refine z_iadd (pc := 42) dX8_layAll_42 ?_ | refine r_iadd (pc := 42) dX8_layAll_42 ?_
        refine n_iald (pc := 43) dX8_layAll_43 (laM_R hK) (by omega) (by decide) (hI.Z hs hn) ?_
        refine n_if_le (pc := 44) 70 (by decide) dX8_layAll_44 (by omega) (fun _ => ?_) (fun h9 => absurd h9 (by omega))
        refine n_iinc3 (pc := 70) dX8_layAll_70 rfl ?_
        refine r_goto (pc := 73) 30 (by decide) dX8_layAll_73 ?_
        exact ih L hL
  · refine r_iload3 (pc := 7) dX8_layAll_7 ?_
    refine r_aload1 (pc := 8) dX8_layAll_8 ?_
    refine r_callS1i (pc := 9) lk_X8_54 dX8_layAll_9 (s8_tiles (laM_R hK) hI hZ) (by decide) (Nat.le_of_ble_eq_true rfl) ⟨Nat.zero_le _, Nat.zero_le _⟩ ?_
    refine n_icmp_ge (pc := 12) 28 (by decide) dX8_layAll_12 (by omega) (by omega) (fun hc12 => absurd hc12 (by omega)) (fun hc12 => ?_)
    refine r_aload0 (pc := 15) dX8_layAll_15 ?_
    refine r_getf (pc := 16) fl_X8_29 dX8_layAll_16 laM_0 rfl ?_
    refine r_iload3 (pc := 19) dX8_layAll_19 ?_
    refine n_iconst_0 (pc := 20) dX8_layAll_20 ?_
    refine n_zast (pc := 21) dX8_layAll_21 (laM_L hK) (by omega) (by decide) ?_
    rw [nar_bo0]
    refine G_M (laM_sL hK) ?_
    refine n_iinc3 (pc := 22) dX8_layAll_22 rfl ?_
    refine r_goto (pc := 25) 7 (by decide) dX8_layAll_25 ?_
    refine ih _ (fun j hj => ?_)
    by_cases e : j = t
    · rw [e, upd_same]
    · rw [upd_ne e]; exact hL j (by omega)
theorem s8_laidAnew (hK : KR c d) (hI : InvR (S.2 d) z) (hZ : ZOK z) (hT : TOK z) : SpecP mX8_laidAnew 7 0 0 [.ref b, .ref (b + c)] (kset M b S) (tP (some (.int (bI true))) (fun Mf => ∃ L f', InvR f' (layZ z) ∧ Mf = laM M b S d L f')) := by
  refine Spec_of [some (.ref b), some (.ref (b + c))] (by decide) (Nat.le_of_ble_eq_true rfl) rfl ?_
  refine r_aload0 (pc := 0) dX8_laidAnew_0 ?_
  refine r_aload1 (pc := 1) dX8_laidAnew_1 ?_
  refine r_callV1x (pc := 2) lk_X8_188 dX8_laidAnew_2 (kget0 rfl) (s8_layAll hK hI hZ hT)  (by decide) (Nat.le_of_ble_eq_true rfl) ⟨Nat.zero_le _, Nat.zero_le _⟩ (fun M9 h9 => ?_)
  obtain ⟨L, f', hI', rfl⟩ := h9
  refine r_pop (pc := 5) dX8_laidAnew_5 rfl ?_
  refine n_iconst_1 (pc := 6) dX8_laidAnew_6 ?_
  exact p_ireturn (pc := 7) false rfl rfl (by decide) dX8_laidAnew_7 (Nat.zero_le _) (Nat.zero_le _) (Or.inl rfl) ⟨rfl, L, f', hI', rfl⟩
end RLAY

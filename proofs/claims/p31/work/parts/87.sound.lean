/-! what holds of each portrait -/
def alN (z : ZS) (k : Nat) : Nat := if al z k then 1 else 0
theorem alN_or {z : ZS} (h : ZOK z) {k : Nat} (hk : k < zt z) : (alN z k = 1 ∧ zO z k = zF z k + 1 ∧ zF z k % zc z + 1 < zc z) ∨ (alN z k = 0 ∧ zO z k = zF z k + zc z) := by
  have hd := h.dims
  have f := h.fo hk
  unfold alN
  cases ha : al z k with
  | true =>
    have q1 : zO z k = zF z k + 1 := of_decide_eq_true ha
    exact Or.inl ⟨rfl, q1, by omega⟩
  | false =>
    have q1 : ¬ zO z k = zF z k + 1 := of_decide_eq_false ha
    exact Or.inr ⟨rfl, by omega⟩
theorem mulB {e : Int} {t : Nat} (h0 : 0 ≤ e) (h1 : e ≤ 19602) (ht : t ≤ 56) : 0 ≤ e * t ∧ e * t ≤ 1097712 :=
  ⟨Int.mul_nonneg h0 (by omega), Int.le_trans (Int.mul_le_mul h1 (show (t : Int) ≤ 56 by omega) (by omega) (by decide)) (by decide)⟩
theorem iIB {a c : Int} (h1 : 0 ≤ a) (h2 : a ≤ 1097712) (h3 : 0 ≤ c) (h4 : c ≤ 1097712) (h : c ≤ a) : ¬ (iI a < iI c) := by
  rw [iI_lt (by omega) (by omega) (by omega) (by omega)]
  omega
theorem iI_nmul (e : Int) (t : Nat) : iI e * nI t = iI (e * t) := by rw [iI_nat, iI_mul]
theorem cnt2 {f : Nat → Int32} {c : Nat → Nat} {a d : Nat} (hf : ∀ p, p < 7 → f p = nI (c p)) (ha : a < 7) (hd : d < 7) : ∀ p, p < 7 → upd (upd f a (f a + nI 1)) d (upd f a (f a + nI 1) d + nI 1) p = nI (c p + ((if a = p then 1 else 0) + (if d = p then 1 else 0))) := by
  have h1 : ∀ p, p < 7 → upd f a (f a + nI 1) p = nI (c p + (if a = p then 1 else 0)) := by
    intro p hp
    by_cases e : p = a
    · subst e
      rw [upd_same, hf p hp, if_pos rfl, nI_add]
    · rw [upd_ne e, hf p hp, if_neg (Ne.symm e)]; rfl
  intro p hp
  by_cases e : p = d
  · subst e
    rw [upd_same, h1 p hp, if_pos rfl, nI_add, Nat.add_assoc]
  · rw [upd_ne e, h1 p hp, if_neg (Ne.symm e)]; rfl
theorem n_iinc14 {q : MI} {d : Nat} {x : XM} {mc ms : Nat} {oc : TG} {al : Option Nat} {cs ss pc : Nat} {st : List Value} {M : Mem} {a0 a1 a2 a3 a4 a5 a6 a7 a8 a9 a10 a11 a12 a13 : Option Value} {tl : List (Option Value)} {v : Nat} (h0 : dec q pc = .ok (.iinc 14 1, 3)) (hn : nc a13 = true) (k : G q d x mc ms oc al cs ss (pc + 3) (a0 :: a1 :: a2 :: a3 :: a4 :: a5 :: a6 :: a7 :: a8 :: a9 :: a10 :: a11 :: a12 :: a13 :: some (.int (nI (v + 1))) :: tl) st M) : G q d x mc ms oc al cs ss pc (a0 :: a1 :: a2 :: a3 :: a4 :: a5 :: a6 :: a7 :: a8 :: a9 :: a10 :: a11 :: a12 :: a13 :: some (.int (nI v)) :: tl) st M := r_iinc14 h0 hn (by rw [show nI v + Int32.ofInt 1 = nI (v + 1) from nI_1 v]; exact k)
section SOUND
variable {b : Bool} {M : Mem} {W : Bool → WS}
section SQ
variable {w : WS} {c : Int32}
theorem q_pl6' (hO : WOK w) {k : Nat} (hk : k < zt (wz w)) : cA 4 (nI k) (nI 6) c w = (nI (alN (wz w) k), w) := q_pl6 hO hk
theorem q_sq2 (hO : WOK w) {s : Nat} (hs : s < zq (wz w)) : cA 3 (nI (s % zc (wz w))) (nI (s / zc (wz w))) (nI 2) w = (iI (sqv (wz w) s), w) := q_sqs hO hs (by decide)
theorem q_sq3 (hO : WOK w) {s k : Nat} (hs : s < zq (wz w)) (hp : plZ (wz w) s = k) : cA 3 (nI (s % zc (wz w))) (nI (s / zc (wz w))) (nI 3) w = (nI k, w) := by
  subst hp
  exact q_sqs hO hs (by decide)
theorem q_sq4 (hO : WOK w) {s : Nat} (hs : s < zq (wz w)) : cA 3 (nI (s % zc (wz w))) (nI (s / zc (wz w))) (nI 4) w = (nI (pipZ (wz w) s), w) := q_sqs hO hs (by decide)
theorem q_pl4' (hO : WOK w) {k : Nat} (hk : k < zt (wz w)) : cA 4 (nI k) (nI 4) c w = (iI (sqv (wz w) (zF (wz w) k) + sqv (wz w) (zO (wz w) k)), w) := by rw [q_pl4 hO hk, er_sq hO.z hk]
theorem q_ti2 (hO : WOK w) {k : Nat} (hk : k < zt (wz w)) : cA 5 (nI (zT (wz w) k)) (nI 2) c w = (nI k, w) := by
  rw [q_ti hO (hO.z.t hk) (by decide)]
  show (oI (whZ (wz w) (zT (wz w) k)), w) = _
  rw [wh_eq hO.t hk]; rfl
theorem q_tiA (hO : WOK w) {k : Nat} (hk : k < zt (wz w)) : cA 5 (nI (zT (wz w) k)) (nI (zU (wz w) k)) c w = (nI (pipZ (wz w) (zF (wz w) k)), w) := by
  have hu := hO.z.u hk
  rw [q_ti hO (hO.z.t hk) (by omega), pip_F hO.z hk]
  have e : zU (wz w) k = 0 ∨ zU (wz w) k = 1 := by omega
  rcases e with e | e <;> rw [e] <;> rfl
theorem q_tiB (hO : WOK w) {k : Nat} (hk : k < zt (wz w)) : cA 5 (nI (zT (wz w) k)) (nI (1 - zU (wz w) k)) c w = (nI (pipZ (wz w) (zO (wz w) k)), w) := by
  have hu := hO.z.u hk
  rw [q_ti hO (hO.z.t hk) (by omega), pip_O hO.z hk]
  have e : zU (wz w) k = 0 ∨ zU (wz w) k = 1 := by omega
  rcases e with e | e <;> rw [e] <;> rfl
end SQ
/-- behind the loops -/
def SND3 (b : Bool) (W : Bool → WS) : Prop := ∀ (M : Mem) (f : Nat → Int32) (s v : Int32) (a14 : Option Value) (a15 a16 a17 a18 a19 a20 a21 a22 : Option Value), nc a14 = true → TW M W → M 328 = some (cI 7 f) → (∀ i, 329 ≤ i → M i = none) → s = iI (zS (er (wz (W b))) (zt (wz (W b)))) →
  G mL_sound 11 (.inl false) 1300 8000 (tP (some (.int (nI 1))) (fun Mf => TW Mf W ∧ ∀ i, 329 ≤ i → Mf i = none)) none (16 + 20 * zt (wz (W b))) (120 + 120 * zt (wz (W b))) 530 [some (.ref (rb b)), some (.int (nI (zn (wz (W b))))), some (.int (nI (zc (wz (W b))))), some (.int (nI (zr (wz (W b))))), some (.int (nI (zt (wz (W b))))), some (.ref 328), some (.int s), some (.int (nI (zN (al (wz (W b))) (zt (wz (W b)))))), some (.int (nI (zM (zU (wz (W b))) (zt (wz (W b)))))), some (.int (nI (zM (zH (wz (W b))) (zt (wz (W b)))))), some (.int v), some (.long (mkZ (wz (W b)) (zt (wz (W b))))), none, some (.int (nI 1)), some (.int (nI (zn (wz (W b)) + 1))), a15, a16, a17, a18, a19, a20, a21, a22] [] M
set_option maxRecDepth 20000 in
theorem s_sound3 (hO : WOK (W b)) : SND3 b W := by
  intro M f s v a14 a15 a16 a17 a18 a19 a20 a21 a22 hnc hT hP hN hs
  have hZ := hO.z
  have hd := hZ.dims
  subst hs
  have hX : ∀ i, 328 ≤ i → M i = M i := fun _ _ => rfl
  have hz0 := hZ.erAllN (zt (wz (W b))) (Nat.le_refl _)
  have hl0 : 0 ≤ leastZ (wz (W b)) := by
    have := zS_dn (f := fun s => lsq (wz (W b)) s (zn (wz (W b)))) (c := 0) (zq (wz (W b))) (fun i hi => (lsq_le hZ hi _ (Nat.le_refl _)).1)
    rw [Int.zero_mul] at this
    exact this
  have hl1 : leastZ (wz (W b)) ≤ zS (er (wz (W b))) (zt (wz (W b))) := least_le hZ
  obtain ⟨m1, u1, u2, u3⟩ := wor_first hZ
  obtain ⟨m2, v1, v2, v3⟩ := wor_last hZ
  have e1 := hZ.erB u2
  have e2 := hZ.erB v2
  have b1 := mulB e1.1 e1.2 (show zt (wz (W b)) ≤ 56 by omega)
  have b2 := mulB e2.1 e2.2 (show zt (wz (W b)) ≤ 56 by omega)
  have t1 := zS_up (f := er (wz (W b))) (zt (wz (W b))) u3
  have t2 := zS_dn (f := er (wz (W b))) (zt (wz (W b))) v3
  have qw1 : ∀ x y : Int32, cA 17 (nI 0) x y (W b) = (nI m1, W b) := fun x y => by rw [q_worst hO (by omega), u1]; rfl
  have qw2 : ∀ x y : Int32, cA 17 (nI (zt (wz (W b)) - 1)) x y (W b) = (nI m2, W b) := fun x y => by rw [q_worst hO (by omega), v1]; rfl
  refine r_aload0 (pc := 530) dL_sound_530 ?_
  refine n_bipush (pc := 531) 17 (by decide) dL_sound_531 ?_
  refine n_iconst_0 (pc := 533) dL_sound_533 ?_
  refine n_iconst_0 (pc := 534) dL_sound_534 ?_
  refine n_iconst_0 (pc := 535) dL_sound_535 ?_
  refine r_call5 (pc := 536) rfl rfl dL_sound_536 (s_ask b hT hO (by decide) (qw1 _ _)) (by decide) (Nat.le_of_ble_eq_true rfl) ⟨by omega, by omega⟩ (fun M9 h9 => ?_)
  obtain ⟨hT, hY⟩ := h9
  have hX : ∀ i, 328 ≤ i → M9 i = M i := fun i hi => (hY i hi).trans (hX i hi)
  clear hY
  refine r_istore14 (pc := 539) dL_sound_539 rfl ?_
  refine r_iload13 (pc := 541) dL_sound_541 ?_
  refine n_if_eq (pc := 543) 670 (by decide) dL_sound_543 (by omega) (fun hc543 => absurd hc543 (by omega)) (fun hc543 => ?_)
  refine r_lload11 (pc := 546) dL_sound_546 ?_
  refine r_lconst_1 (pc := 548) dL_sound_548 ?_
  refine r_iload4 (pc := 549) dL_sound_549 ?_
  refine r_lshl (pc := 551) dL_sound_551 ?_
  refine r_lconst_1 (pc := 552) dL_sound_552 ?_
  refine r_lsub (pc := 553) dL_sound_553 ?_
  refine r_lcmp (pc := 554) dL_sound_554 ?_
  refine r_if_ne (pc := 555) 670 (by decide) dL_sound_555 (fun h9 => absurd ((lg_cmp_eq _ _).mpr (mk_all hZ hO.t)) h9) (fun _ => ?_)
  refine r_aload0 (pc := 558) dL_sound_558 ?_
  refine n_iconst_2 (pc := 559) dL_sound_559 ?_
  refine n_iconst_5 (pc := 560) dL_sound_560 ?_
  refine n_iconst_0 (pc := 561) dL_sound_561 ?_
  refine n_iconst_0 (pc := 562) dL_sound_562 ?_
  refine r_call5 (pc := 563) rfl rfl dL_sound_563 (s_ask b hT hO (by decide) q_ab5) (by decide) (Nat.le_of_ble_eq_true rfl) ⟨by omega, by omega⟩ (fun M9 h9 => ?_)
  obtain ⟨hT, hY⟩ := h9
  have hX : ∀ i, 328 ≤ i → M9 i = M i := fun i hi => (hY i hi).trans (hX i hi)
  clear hY
  refine r_iload6 (pc := 566) dL_sound_566 ?_
  refine r_icmp_ne (pc := 568) 670 (by decide) dL_sound_568 (fun h9 => absurd rfl h9) (fun _ => ?_)
  refine r_aload0 (pc := 571) dL_sound_571 ?_
  refine n_iconst_2 (pc := 572) dL_sound_572 ?_
  refine n_bipush (pc := 573) 6 (by decide) dL_sound_573 ?_
  refine n_iconst_0 (pc := 575) dL_sound_575 ?_
  refine n_iconst_0 (pc := 576) dL_sound_576 ?_
  refine r_call5 (pc := 577) rfl rfl dL_sound_577 (s_ask b hT hO (by decide) q_ab6) (by decide) (Nat.le_of_ble_eq_true rfl) ⟨by omega, by omega⟩ (fun M9 h9 => ?_)
  obtain ⟨hT, hY⟩ := h9
  have hX : ∀ i, 328 ≤ i → M9 i = M i := fun i hi => (hY i hi).trans (hX i hi)
  clear hY
  refine r_iload7 (pc := 580) dL_sound_580 ?_
  refine r_icmp_ne (pc := 582) 670 (by decide) dL_sound_582 (fun h9 => absurd rfl h9) (fun _ => ?_)
  refine r_aload0 (pc := 585) dL_sound_585 ?_
  refine n_iconst_2 (pc := 586) dL_sound_586 ?_
  refine n_bipush (pc := 587) 7 (by decide) dL_sound_587 ?_
  refine n_iconst_0 (pc := 589) dL_sound_589 ?_
  refine n_iconst_0 (pc := 590) dL_sound_590 ?_
  refine r_call5 (pc := 591) rfl rfl dL_sound_591 (s_ask b hT hO (by decide) q_ab7) (by decide) (Nat.le_of_ble_eq_true rfl) ⟨by omega, by omega⟩ (fun M9 h9 => ?_)
  obtain ⟨hT, hY⟩ := h9
  have hX : ∀ i, 328 ≤ i → M9 i = M i := fun i hi => (hY i hi).trans (hX i hi)
  clear hY
  refine r_iload8 (pc := 594) dL_sound_594 ?_
  refine r_icmp_ne (pc := 596) 670 (by decide) dL_sound_596 (fun h9 => absurd rfl h9) (fun _ => ?_)
  refine r_aload0 (pc := 599) dL_sound_599 ?_
  refine n_iconst_2 (pc := 600) dL_sound_600 ?_
  refine n_bipush (pc := 601) 8 (by decide) dL_sound_601 ?_
  refine n_iconst_0 (pc := 603) dL_sound_603 ?_
  refine n_iconst_0 (pc := 604) dL_sound_604 ?_
  refine r_call5 (pc := 605) rfl rfl dL_sound_605 (s_ask b hT hO (by decide) q_ab8) (by decide) (Nat.le_of_ble_eq_true rfl) ⟨by omega, by omega⟩ (fun M9 h9 => ?_)
  obtain ⟨hT, hY⟩ := h9
  have hX : ∀ i, 328 ≤ i → M9 i = M i := fun i hi => (hY i hi).trans (hX i hi)
  clear hY
  refine r_iload9 (pc := 608) dL_sound_608 ?_
  refine r_icmp_ne (pc := 610) 670 (by decide) dL_sound_610 (fun h9 => absurd rfl h9) (fun _ => ?_)
  refine r_aload0 (pc := 613) dL_sound_613 ?_
  refine r_callV0x (pc := 614) lk_L_186 dL_sound_614 (hT.obj b) (s_least2 b hT hO)  (by decide) (Nat.le_of_ble_eq_true rfl) ⟨by omega, by omega⟩ (fun M9 h9 => ?_)
  obtain ⟨hT, hY⟩ := h9
  have hX : ∀ i, 328 ≤ i → M9 i = M i := fun i hi => (hY i hi).trans (hX i hi)
  clear hY
  refine r_iload6 (pc := 617) dL_sound_617 ?_
  refine r_icmp_gt (pc := 619) 670 (by decide) dL_sound_619 (fun h9 => absurd h9 (iIB hz0.1 hz0.2 hl0 (by omega) hl1)) (fun _ => ?_)
  refine r_aload0 (pc := 622) dL_sound_622 ?_
  refine n_iconst_4 (pc := 623) dL_sound_623 ?_
  refine r_iload14 (pc := 624) dL_sound_624 ?_
  refine n_iconst_4 (pc := 626) dL_sound_626 ?_
  refine n_iconst_0 (pc := 627) dL_sound_627 ?_
  refine r_call5 (pc := 628) rfl rfl dL_sound_628 (s_ask b hT hO (by decide) (q_pl4 hO u2)) (by decide) (Nat.le_of_ble_eq_true rfl) ⟨by omega, by omega⟩ (fun M9 h9 => ?_)
  obtain ⟨hT, hY⟩ := h9
  have hX : ∀ i, 328 ≤ i → M9 i = M i := fun i hi => (hY i hi).trans (hX i hi)
  clear hY
  refine r_iload4 (pc := 631) dL_sound_631 ?_
  refine r_imul (pc := 633) dL_sound_633 ?_
  refine r_iload6 (pc := 634) dL_sound_634 ?_
  refine r_icmp_lt (pc := 636) 670 (by decide) dL_sound_636 (fun h9 => absurd h9 (by rw [iI_nmul]; exact iIB b1.1 b1.2 hz0.1 hz0.2 t1)) (fun _ => ?_)
  refine r_aload0 (pc := 639) dL_sound_639 ?_
  refine n_iconst_4 (pc := 640) dL_sound_640 ?_
  refine r_aload0 (pc := 641) dL_sound_641 ?_
  refine n_bipush (pc := 642) 17 (by decide) dL_sound_642 ?_
  refine r_iload4 (pc := 644) dL_sound_644 ?_
  refine n_iconst_1 (pc := 646) dL_sound_646 ?_
  refine n_isub (pc := 647) dL_sound_647 (by omega) ?_
  refine n_iconst_0 (pc := 648) dL_sound_648 ?_
  refine n_iconst_0 (pc := 649) dL_sound_649 ?_
  refine r_call5 (pc := 650) rfl rfl dL_sound_650 (s_ask b hT hO (by decide) (qw2 _ _)) (by decide) (Nat.le_of_ble_eq_true rfl) ⟨by omega, by omega⟩ (fun M9 h9 => ?_)
  obtain ⟨hT, hY⟩ := h9
  have hX : ∀ i, 328 ≤ i → M9 i = M i := fun i hi => (hY i hi).trans (hX i hi)
  clear hY
  refine n_iconst_4 (pc := 653) dL_sound_653 ?_
  refine n_iconst_0 (pc := 654) dL_sound_654 ?_
  refine r_call5 (pc := 655) rfl rfl dL_sound_655 (s_ask b hT hO (by decide) (q_pl4 hO v2)) (by decide) (Nat.le_of_ble_eq_true rfl) ⟨by omega, by omega⟩ (fun M9 h9 => ?_)
  obtain ⟨hT, hY⟩ := h9
  have hX : ∀ i, 328 ≤ i → M9 i = M i := fun i hi => (hY i hi).trans (hX i hi)
  clear hY
  refine r_iload4 (pc := 658) dL_sound_658 ?_
  refine r_imul (pc := 660) dL_sound_660 ?_
  refine r_iload6 (pc := 661) dL_sound_661 ?_
  refine r_icmp_gt (pc := 663) 670 (by decide) dL_sound_663 (fun h9 => absurd h9 (by rw [iI_nmul]; exact iIB hz0.1 hz0.2 b2.1 b2.2 t2)) (fun _ => ?_)
  refine n_iconst_1 (pc := 666) dL_sound_666 ?_
  refine r_goto (pc := 667) 671 (by decide) dL_sound_667 ?_
  exact p_ireturn (pc := 671) false rfl rfl (by decide) dL_sound_671 (by omega) (by omega) (Or.inl rfl) ⟨rfl, hT, fun i hi => (hX i (by omega)).trans (hN i hi)⟩
/-- the second loop -/
def SND2 (b : Bool) (W : Bool → WS) (k : Nat) : Prop := ∀ (M : Mem) (f : Nat → Int32) (s v : Int32) (a15 a16 a17 a18 a19 a20 a21 a22 : Option Value), TW M W → M 328 = some (cI 7 f) → (∀ i, 329 ≤ i → M i = none) → s = iI (zS (er (wz (W b))) (zt (wz (W b)))) → (∀ p, p < 7 → f p = nI (cP (wz (W b)) p (zt (wz (W b))))) →
  G mL_sound 11 (.inl false) 1300 8000 (tP (some (.int (nI 1))) (fun Mf => TW Mf W ∧ ∀ i, 329 ≤ i → Mf i = none)) none (7 + 20 * zt (wz (W b)) + k) (50 + 120 * zt (wz (W b)) + 6 * k) 488 [some (.ref (rb b)), some (.int (nI (zn (wz (W b))))), some (.int (nI (zc (wz (W b))))), some (.int (nI (zr (wz (W b))))), some (.int (nI (zt (wz (W b))))), some (.ref 328), some (.int s), some (.int (nI (zN (al (wz (W b))) (zt (wz (W b)))))), some (.int (nI (zM (zU (wz (W b))) (zt (wz (W b)))))), some (.int (nI (zM (zH (wz (W b))) (zt (wz (W b)))))), some (.int v), some (.long (mkZ (wz (W b)) (zt (wz (W b))))), none, some (.int (nI 1)), some (.int (nI k)), a15, a16, a17, a18, a19, a20, a21, a22] [] M
set_option maxRecDepth 20000 in
theorem s_sound2 (hO : WOK (W b)) : SND2 b W 0 := by
  have hZ := hO.z
  have hd := hZ.dims
  have hn := hZ.n
  have key : ∀ k, k ≤ zn (wz (W b)) + 1 → SND2 b W k := fun k hk => by
    refine up_to (N := zn (wz (W b)) + 1) (k := k) (fun k => SND2 b W k) ?_ (fun k hk ih => ?_) hk
    · intro M f s v a15 a16 a17 a18 a19 a20 a21 a22 hT hP hN hs hf
      refine r_iload14 (pc := 488) dL_sound_488 ?_
      refine r_iload1 (pc := 490) dL_sound_490 ?_
      refine n_icmp_gt (pc := 491) 530 (by decide) dL_sound_491 (by omega) (by omega) (fun hc491 => ?_) (fun hc491 => absurd hc491 (by omega))
      refine G_widen rfl (show _ ≤ 16 + 20 * zt (wz (W b)) by omega) (show _ ≤ 120 + 120 * zt (wz (W b)) by omega) ?_
      exact s_sound3 hO M f s v none a15 a16 a17 a18 a19 a20 a21 a22 rfl hT hP hN hs
    · intro M f s v a15 a16 a17 a18 a19 a20 a21 a22 hT hP hN hs hf
      have hX : ∀ i, 328 ≤ i → M i = M i := fun _ _ => rfl
      refine r_iload14 (pc := 488) dL_sound_488 ?_
      refine r_iload1 (pc := 490) dL_sound_490 ?_
      refine n_icmp_gt (pc := 491) 530 (by decide) dL_sound_491 (by omega) (by omega) (fun hc491 => absurd hc491 (by omega)) (fun hc491 => ?_)
      refine r_iload13 (pc := 494) dL_sound_494 ?_
      refine n_if_eq (pc := 496) 530 (by decide) dL_sound_496 (by omega) (fun hc496 => absurd hc496 (by omega)) (fun hc496 => ?_)
      refine r_aload5 (pc := 499) dL_sound_499 ?_
      refine r_iload14 (pc := 501) dL_sound_501 ?_
      refine n_iald (pc := 503) dL_sound_503 hP (by omega) (by decide) ((hf k (by omega)).trans (congrArg nI (cP_all hZ hO.t (by omega)))) ?_
      refine r_iload2 (pc := 504) dL_sound_504 ?_
      refine r_aload0 (pc := 505) dL_sound_505 ?_
      refine n_iconst_2 (pc := 506) dL_sound_506 ?_
      refine n_iconst_1 (pc := 507) dL_sound_507 ?_
      refine n_iconst_0 (pc := 508) dL_sound_508 ?_
      refine n_iconst_0 (pc := 509) dL_sound_509 ?_
      refine r_call5 (pc := 510) rfl rfl dL_sound_510 (s_ask b hT hO (by decide) q_ab1) (by decide) (Nat.le_of_ble_eq_true rfl) ⟨by omega, by omega⟩ (fun M9 h9 => ?_)
      obtain ⟨hT, hY⟩ := h9
      have hX : ∀ i, 328 ≤ i → M9 i = M i := fun i hi => (hY i hi).trans (hX i hi)
      clear hY
      first | refine n_imul (pc := 513) dL_sound_513 ?_ | refine z_imul (pc := 513) dL_sound_513 ?_ | refine r_imul (pc := 513) dL_sound_513 ?_
      refine r_icmp_ne (pc := 514) 521 (by decide) dL_sound_514 (fun h9 => absurd rfl h9) (fun _ => ?_)
      refine n_iconst_1 (pc := 517) dL_sound_517 ?_
      refine r_goto (pc := 518) 522 (by decide) dL_sound_518 ?_
      refine r_istore13 (pc := 522) dL_sound_522 rfl ?_
      refine n_iinc14 (pc := 524) dL_sound_524 rfl ?_
      refine r_goto (pc := 527) 488 (by decide) dL_sound_527 ?_
      refine G_widen rfl (show _ ≤ 7 + 20 * zt (wz (W b)) + (k + 1) by omega) (show _ ≤ 50 + 120 * zt (wz (W b)) + 6 * (k + 1) by omega) ?_
      exact ih M9 f s v a15 a16 a17 a18 a19 a20 a21 a22 hT ((hX 328 (by decide)).trans hP) (fun i hi => (hX i (by omega)).trans (hN i hi)) hs hf
  exact key 0 (by omega)
/-- the first loop -/
def SND1 (b : Bool) (W : Bool → WS) (k : Nat) : Prop := ∀ (M : Mem) (f : Nat → Int32) (s v : Int32) (a15 a16 a17 a18 a19 a20 a21 a22 : Option Value), TW M W → M 328 = some (cI 7 f) → (∀ i, 329 ≤ i → M i = none) → (∀ p, p < 7 → f p = nI (cP (wz (W b)) p k)) → s = iI (zS (er (wz (W b))) k) → (∀ j, k ≤ j → j < zt (wz (W b)) → v.toInt < (zF (wz (W b)) j : Int)) →
  G mL_sound 11 (.inl false) 1300 8000 (tP (some (.int (nI 1))) (fun Mf => TW Mf W ∧ ∀ i, 329 ≤ i → Mf i = none)) none (6 + 20 * k) (40 + 120 * k) 104 [some (.ref (rb b)), some (.int (nI (zn (wz (W b))))), some (.int (nI (zc (wz (W b))))), some (.int (nI (zr (wz (W b))))), some (.int (nI (zt (wz (W b))))), some (.ref 328), some (.int s), some (.int (nI (zN (al (wz (W b))) k))), some (.int (nI (zM (zU (wz (W b))) k))), some (.int (nI (zM (zH (wz (W b))) k))), some (.int v), some (.long (mkZ (wz (W b)) k)), none, some (.int (nI 1)), some (.int (nI k)), a15, a16, a17, a18, a19, a20, a21, a22] [] M
set_option maxRecDepth 20000 in
theorem s_sound1b (hO : WOK (W b)) {k : Nat} (hk : k < zt (wz (W b))) (ih : SND1 b W (k + 1)) {M M0 : Mem} {f : Nat → Int32} {v : Int32} (hT : TW M W) (hX : ∀ i, 328 ≤ i → M i = M0 i) (hP : M0 328 = some (cI 7 f)) (hN : ∀ i, 329 ≤ i → M0 i = none) (hf : ∀ p, p < 7 → f p = nI (cP (wz (W b)) p k)) :
  G mL_sound 11 (.inl false) 1300 8000 (tP (some (.int (nI 1))) (fun Mf => TW Mf W ∧ ∀ i, 329 ≤ i → Mf i = none)) none (16 + 20 * k) (100 + 120 * k) 323 [some (.ref (rb b)), some (.int (nI (zn (wz (W b))))), some (.int (nI (zc (wz (W b))))), some (.int (nI (zr (wz (W b))))), some (.int (nI (zt (wz (W b))))), some (.ref 328), some (.int (iI (zS (er (wz (W b))) k + (sqv (wz (W b)) (zF (wz (W b)) k) + sqv (wz (W b)) (zO (wz (W b)) k))))), some (.int (nI (zN (al (wz (W b))) k + alN (wz (W b)) k))), some (.int (nI (zM (zU (wz (W b))) k + zU (wz (W b)) k))), some (.int (nI (zM (zH (wz (W b))) k + zH (wz (W b)) k))), some (.int v), some (.long (mkZ (wz (W b)) (k + 1))), none, some (.int (nI 1)), some (.int (nI k)), some (.int (nI (zF (wz (W b)) k))), some (.int (nI (zO (wz (W b)) k))), some (.int (nI (zT (wz (W b)) k))), some (.int (nI (zU (wz (W b)) k))), some (.int (nI (alN (wz (W b)) k))), some (.int (nI (pipZ (wz (W b)) (zF (wz (W b)) k)))), some (.int (nI (pipZ (wz (W b)) (zO (wz (W b)) k)))), some (.int (iI (sqv (wz (W b)) (zF (wz (W b)) k) + sqv (wz (W b)) (zO (wz (W b)) k))))] [] M := by
  have hZ := hO.z
  have hd := hZ.dims
  have hn := hZ.n
  have fo := hZ.fo hk
  have hu := hZ.u hk
  have tl := tg_le hZ hk
  have tb := tg_b hZ hk
  have eb := hZ.erB hk
  rw [er_sq hZ hk] at tl eb
  have hpF := pip_le hZ (hZ.fq hk)
  have hpO := pip_le hZ (hZ.oq hk)
  have hP : M 328 = some (cI 7 f) := (hX 328 (by decide)).trans hP
  have hN : ∀ i, 329 ≤ i → M i = none := fun i hi => (hX i (by omega)).trans (hN i hi)
  clear hX
  have hX : ∀ i, 328 ≤ i → M i = M i := fun _ _ => rfl
  refine r_iload16 (pc := 323) dL_sound_323 ?_
  refine n_iconst_2 (pc := 325) dL_sound_325 ?_
  refine r_iload4 (pc := 326) dL_sound_326 ?_
  first | refine n_imul (pc := 328) dL_sound_328 ?_ | refine z_imul (pc := 328) dL_sound_328 ?_ | refine r_imul (pc := 328) dL_sound_328 ?_
  refine n_icmp_ge (pc := 329) 449 (by decide) dL_sound_329 (by omega) (by omega) (fun hc329 => absurd hc329 (by omega)) (fun hc329 => ?_)
  refine r_aload0 (pc := 332) dL_sound_332 ?_
  refine n_iconst_5 (pc := 333) dL_sound_333 ?_
  refine r_iload17 (pc := 334) dL_sound_334 ?_
  refine n_iconst_2 (pc := 336) dL_sound_336 ?_
  refine n_iconst_0 (pc := 337) dL_sound_337 ?_
  refine r_call5 (pc := 338) rfl rfl dL_sound_338 (s_ask b hT hO (by decide) (q_ti2 hO hk)) (by decide) (Nat.le_of_ble_eq_true rfl) ⟨by omega, by omega⟩ (fun M9 h9 => ?_)
  obtain ⟨hT, hY⟩ := h9
  have hX : ∀ i, 328 ≤ i → M9 i = M i := fun i hi => (hY i hi).trans (hX i hi)
  clear hY
  refine r_iload14 (pc := 341) dL_sound_341 ?_
  refine r_icmp_ne (pc := 343) 449 (by decide) dL_sound_343 (fun h9 => absurd rfl h9) (fun _ => ?_)
  refine r_aload0 (pc := 346) dL_sound_346 ?_
  refine n_iconst_3 (pc := 347) dL_sound_347 ?_
  refine r_iload15 (pc := 348) dL_sound_348 ?_
  refine r_iload2 (pc := 350) dL_sound_350 ?_
  refine n_irem (pc := 351) dL_sound_351 (by omega) (by omega) (by omega) ?_
  refine r_iload15 (pc := 352) dL_sound_352 ?_
  refine r_iload2 (pc := 354) dL_sound_354 ?_
  refine n_idiv (pc := 355) dL_sound_355 (by omega) (by omega) (by omega) ?_
  refine n_iconst_3 (pc := 356) dL_sound_356 ?_
  refine r_call5 (pc := 357) rfl rfl dL_sound_357 (s_ask b hT hO (by decide) (q_sq3 hO (hZ.fq hk) (plZ_eq hZ hk (Or.inl rfl)))) (by decide) (Nat.le_of_ble_eq_true rfl) ⟨by omega, by omega⟩ (fun M9 h9 => ?_)
  obtain ⟨hT, hY⟩ := h9
  have hX : ∀ i, 328 ≤ i → M9 i = M i := fun i hi => (hY i hi).trans (hX i hi)
  clear hY
  refine r_iload14 (pc := 360) dL_sound_360 ?_
  refine r_icmp_ne (pc := 362) 449 (by decide) dL_sound_362 (fun h9 => absurd rfl h9) (fun _ => ?_)
  refine r_aload0 (pc := 365) dL_sound_365 ?_
  refine n_iconst_3 (pc := 366) dL_sound_366 ?_
  refine r_iload16 (pc := 367) dL_sound_367 ?_
  refine r_iload2 (pc := 369) dL_sound_369 ?_
  refine n_irem (pc := 370) dL_sound_370 (by omega) (by omega) (by omega) ?_
  refine r_iload16 (pc := 371) dL_sound_371 ?_
  refine r_iload2 (pc := 373) dL_sound_373 ?_
  refine n_idiv (pc := 374) dL_sound_374 (by omega) (by omega) (by omega) ?_
  refine n_iconst_3 (pc := 375) dL_sound_375 ?_
  refine r_call5 (pc := 376) rfl rfl dL_sound_376 (s_ask b hT hO (by decide) (q_sq3 hO (hZ.oq hk) (plZ_eq hZ hk (Or.inr rfl)))) (by decide) (Nat.le_of_ble_eq_true rfl) ⟨by omega, by omega⟩ (fun M9 h9 => ?_)
  obtain ⟨hT, hY⟩ := h9
  have hX : ∀ i, 328 ≤ i → M9 i = M i := fun i hi => (hY i hi).trans (hX i hi)
  clear hY
  refine r_iload14 (pc := 379) dL_sound_379 ?_
  refine r_icmp_ne (pc := 381) 449 (by decide) dL_sound_381 (fun h9 => absurd rfl h9) (fun _ => ?_)
  refine r_iload22 (pc := 384) dL_sound_384 ?_
  refine r_aload0 (pc := 386) dL_sound_386 ?_
  refine n_iconst_4 (pc := 387) dL_sound_387 ?_
  refine r_iload14 (pc := 388) dL_sound_388 ?_
  refine n_iconst_4 (pc := 390) dL_sound_390 ?_
  refine n_iconst_0 (pc := 391) dL_sound_391 ?_
  refine r_call5 (pc := 392) rfl rfl dL_sound_392 (s_ask b hT hO (by decide) (q_pl4' hO hk)) (by decide) (Nat.le_of_ble_eq_true rfl) ⟨by omega, by omega⟩ (fun M9 h9 => ?_)
  obtain ⟨hT, hY⟩ := h9
  have hX : ∀ i, 328 ≤ i → M9 i = M i := fun i hi => (hY i hi).trans (hX i hi)
  clear hY
  refine r_icmp_ne (pc := 395) 449 (by decide) dL_sound_395 (fun h9 => absurd rfl h9) (fun _ => ?_)
  refine r_iload20 (pc := 398) dL_sound_398 ?_
  refine r_aload0 (pc := 400) dL_sound_400 ?_
  refine n_iconst_5 (pc := 401) dL_sound_401 ?_
  refine r_iload17 (pc := 402) dL_sound_402 ?_
  refine r_iload18 (pc := 404) dL_sound_404 ?_
  refine n_iconst_0 (pc := 406) dL_sound_406 ?_
  refine r_call5 (pc := 407) rfl rfl dL_sound_407 (s_ask b hT hO (by decide) (q_tiA hO hk)) (by decide) (Nat.le_of_ble_eq_true rfl) ⟨by omega, by omega⟩ (fun M9 h9 => ?_)
  obtain ⟨hT, hY⟩ := h9
  have hX : ∀ i, 328 ≤ i → M9 i = M i := fun i hi => (hY i hi).trans (hX i hi)
  clear hY
  refine r_icmp_ne (pc := 410) 449 (by decide) dL_sound_410 (fun h9 => absurd rfl h9) (fun _ => ?_)
  refine r_iload21 (pc := 413) dL_sound_413 ?_
  refine r_aload0 (pc := 415) dL_sound_415 ?_
  refine n_iconst_5 (pc := 416) dL_sound_416 ?_
  refine r_iload17 (pc := 417) dL_sound_417 ?_
  refine n_iconst_1 (pc := 419) dL_sound_419 ?_
  refine r_iload18 (pc := 420) dL_sound_420 ?_
  refine n_isub (pc := 422) dL_sound_422 (by omega) ?_
  refine n_iconst_0 (pc := 423) dL_sound_423 ?_
  refine r_call5 (pc := 424) rfl rfl dL_sound_424 (s_ask b hT hO (by decide) (q_tiB hO hk)) (by decide) (Nat.le_of_ble_eq_true rfl) ⟨by omega, by omega⟩ (fun M9 h9 => ?_)
  obtain ⟨hT, hY⟩ := h9
  have hX : ∀ i, 328 ≤ i → M9 i = M i := fun i hi => (hY i hi).trans (hX i hi)
  clear hY
  refine r_icmp_ne (pc := 427) 449 (by decide) dL_sound_427 (fun h9 => absurd rfl h9) (fun _ => ?_)
  refine r_aload0 (pc := 430) dL_sound_430 ?_
  refine n_bipush (pc := 431) 14 (by decide) dL_sound_431 ?_
  refine r_iload14 (pc := 433) dL_sound_433 ?_
  refine n_iconst_0 (pc := 435) dL_sound_435 ?_
  refine n_iconst_0 (pc := 436) dL_sound_436 ?_
  refine r_call5 (pc := 437) rfl rfl dL_sound_437 (s_ask b hT hO (by decide) (q_gainT hO hk)) (by decide) (Nat.le_of_ble_eq_true rfl) ⟨by omega, by omega⟩ (fun M9 h9 => ?_)
  obtain ⟨hT, hY⟩ := h9
  have hX : ∀ i, 328 ≤ i → M9 i = M i := fun i hi => (hY i hi).trans (hX i hi)
  clear hY
  refine r_iload22 (pc := 440) dL_sound_440 ?_
  refine z_icmp_gt (pc := 442) 449 (by decide) dL_sound_442 (by omega) (by omega) (by omega) (by omega) (fun hc442 => absurd hc442 (by omega)) (fun hc442 => ?_)
  refine n_iconst_1 (pc := 445) dL_sound_445 ?_
  refine r_goto (pc := 446) 450 (by decide) dL_sound_446 ?_
  refine r_istore13 (pc := 450) dL_sound_450 rfl ?_
  refine r_iload13 (pc := 452) dL_sound_452 ?_
  refine n_if_eq (pc := 454) 475 (by decide) dL_sound_454 (by omega) (fun hc454 => absurd hc454 (by omega)) (fun hc454 => ?_)
  have hP9 : M9 328 = some (cI 7 f) := (hX 328 (by decide)).trans hP
  refine r_aload5 (pc := 457) dL_sound_457 ?_
  refine r_iload20 (pc := 459) dL_sound_459 ?_
  refine r_dup2 (pc := 461) dL_sound_461 rfl rfl ?_
  refine n_iald (pc := 462) dL_sound_462 hP9 (by omega) (by decide) rfl ?_
  refine n_iconst_1 (pc := 463) dL_sound_463 ?_
  first | refine n_iadd (pc := 464) dL_sound_464 ?_ | refine z_iadd (pc := 464) dL_sound_464 ?_ | refine r_iadd (pc := 464) dL_sound_464 ?_
  refine n_iast (pc := 465) dL_sound_465 hP9 (by omega) (by decide) ?_
  refine r_aload5 (pc := 466) dL_sound_466 ?_
  refine r_iload21 (pc := 468) dL_sound_468 ?_
  refine r_dup2 (pc := 470) dL_sound_470 rfl rfl ?_
  refine n_iald (pc := 471) dL_sound_471 mset_same (by omega) (by decide) rfl ?_
  refine n_iconst_1 (pc := 472) dL_sound_472 ?_
  first | refine n_iadd (pc := 473) dL_sound_473 ?_ | refine z_iadd (pc := 473) dL_sound_473 ?_ | refine r_iadd (pc := 473) dL_sound_473 ?_
  refine n_iast (pc := 474) dL_sound_474 mset_same (by omega) (by decide) ?_
  refine r_iload15 (pc := 475) dL_sound_475 ?_
  refine r_istore10 (pc := 477) dL_sound_477 rfl ?_
  refine n_iinc14 (pc := 479) dL_sound_479 rfl ?_
  refine r_goto (pc := 482) 104 (by decide) dL_sound_482 ?_
  refine G_widen rfl (show _ ≤ 6 + 20 * (k + 1) by omega) (show _ ≤ 40 + 120 * (k + 1) by omega) ?_
  refine G_M mset_mset ?_
  exact ih _ _ _ _ _ _ _ _ _ _ _ _ (hT.ext (fun i hi => mset_ne (by omega))) mset_same (fun i hi => (mset_ne (by omega)).trans ((hX i (by omega)).trans (hN i hi))) (cnt2 hf (by omega) (by omega)) (by show _ = iI (zS (er (wz (W b))) k + er (wz (W b)) k); rw [er_sq hZ hk]) (fun j hj hj2 => by rw [nI_toInt (by omega)]; have := hZ.mono (i := k) (j := j) (by omega) hj2; omega)
set_option maxRecDepth 20000 in
theorem s_sound1 (hO : WOK (W b)) : SND1 b W 0 := by
  have hZ := hO.z
  have hd := hZ.dims
  have hn := hZ.n
  have key : ∀ k, k ≤ zt (wz (W b)) → SND1 b W k := fun k hk => by
    refine up_to (N := zt (wz (W b))) (k := k) (fun k => SND1 b W k) ?_ (fun k hk ih => ?_) hk
    · intro M f s v a15 a16 a17 a18 a19 a20 a21 a22 hT hP hN hf hs hv
      refine r_iload14 (pc := 104) dL_sound_104 ?_
      refine r_iload4 (pc := 106) dL_sound_106 ?_
      refine n_icmp_ge (pc := 108) 485 (by decide) dL_sound_108 (by omega) (by omega) (fun hc108 => ?_) (fun hc108 => absurd hc108 (by omega))
      refine n_iconst_0 (pc := 485) dL_sound_485 ?_
      refine r_istore14 (pc := 486) dL_sound_486 rfl ?_
      refine G_widen rfl (show _ ≤ 7 + 20 * zt (wz (W b)) + 0 by omega) (show _ ≤ 50 + 120 * zt (wz (W b)) + 6 * 0 by omega) ?_
      exact s_sound2 hO M f s v a15 a16 a17 a18 a19 a20 a21 a22 hT hP hN hs hf
    · intro M f s v a15 a16 a17 a18 a19 a20 a21 a22 hT hP hN hf hs hv
      subst hs
      have hX : ∀ i, 328 ≤ i → M i = M i := fun _ _ => rfl
      have fo := hZ.fo hk
      have hv0 := hv k (Nat.le_refl _) hk
      refine r_iload14 (pc := 104) dL_sound_104 ?_
      refine r_iload4 (pc := 106) dL_sound_106 ?_
      refine n_icmp_ge (pc := 108) 485 (by decide) dL_sound_108 (by omega) (by omega) (fun hc108 => absurd hc108 (by omega)) (fun hc108 => ?_)
      refine r_iload13 (pc := 111) dL_sound_111 ?_
      refine n_if_eq (pc := 113) 485 (by decide) dL_sound_113 (by omega) (fun hc113 => absurd hc113 (by omega)) (fun hc113 => ?_)
      refine r_aload0 (pc := 116) dL_sound_116 ?_
      refine n_iconst_4 (pc := 117) dL_sound_117 ?_
      refine r_iload14 (pc := 118) dL_sound_118 ?_
      refine n_iconst_0 (pc := 120) dL_sound_120 ?_
      refine n_iconst_0 (pc := 121) dL_sound_121 ?_
      refine r_call5 (pc := 122) rfl rfl dL_sound_122 (s_ask b hT hO (by decide) (q_pl0 hO hk)) (by decide) (Nat.le_of_ble_eq_true rfl) ⟨by omega, by omega⟩ (fun M9 h9 => ?_)
      obtain ⟨hT, hY⟩ := h9
      have hX : ∀ i, 328 ≤ i → M9 i = M i := fun i hi => (hY i hi).trans (hX i hi)
      clear hY
      refine r_istore15 (pc := 125) dL_sound_125 rfl ?_
      refine r_aload0 (pc := 127) dL_sound_127 ?_
      refine n_iconst_4 (pc := 128) dL_sound_128 ?_
      refine r_iload14 (pc := 129) dL_sound_129 ?_
      refine n_iconst_1 (pc := 131) dL_sound_131 ?_
      refine n_iconst_0 (pc := 132) dL_sound_132 ?_
      refine r_call5 (pc := 133) rfl rfl dL_sound_133 (s_ask b hT hO (by decide) (q_pl1 hO hk)) (by decide) (Nat.le_of_ble_eq_true rfl) ⟨by omega, by omega⟩ (fun M9 h9 => ?_)
      obtain ⟨hT, hY⟩ := h9
      have hX : ∀ i, 328 ≤ i → M9 i = M i := fun i hi => (hY i hi).trans (hX i hi)
      clear hY
      refine r_istore16 (pc := 136) dL_sound_136 rfl ?_
      refine r_aload0 (pc := 138) dL_sound_138 ?_
      refine n_iconst_4 (pc := 139) dL_sound_139 ?_
      refine r_iload14 (pc := 140) dL_sound_140 ?_
      refine n_iconst_2 (pc := 142) dL_sound_142 ?_
      refine n_iconst_0 (pc := 143) dL_sound_143 ?_
      refine r_call5 (pc := 144) rfl rfl dL_sound_144 (s_ask b hT hO (by decide) (q_pl2 hO hk)) (by decide) (Nat.le_of_ble_eq_true rfl) ⟨by omega, by omega⟩ (fun M9 h9 => ?_)
      obtain ⟨hT, hY⟩ := h9
      have hX : ∀ i, 328 ≤ i → M9 i = M i := fun i hi => (hY i hi).trans (hX i hi)
      clear hY
      refine r_istore17 (pc := 147) dL_sound_147 rfl ?_
      refine r_aload0 (pc := 149) dL_sound_149 ?_
      refine n_iconst_4 (pc := 150) dL_sound_150 ?_
      refine r_iload14 (pc := 151) dL_sound_151 ?_
      refine n_iconst_3 (pc := 153) dL_sound_153 ?_
      refine n_iconst_0 (pc := 154) dL_sound_154 ?_
      refine r_call5 (pc := 155) rfl rfl dL_sound_155 (s_ask b hT hO (by decide) (q_pl3 hO hk)) (by decide) (Nat.le_of_ble_eq_true rfl) ⟨by omega, by omega⟩ (fun M9 h9 => ?_)
      obtain ⟨hT, hY⟩ := h9
      have hX : ∀ i, 328 ≤ i → M9 i = M i := fun i hi => (hY i hi).trans (hX i hi)
      clear hY
      refine r_istore18 (pc := 158) dL_sound_158 rfl ?_
      refine r_aload0 (pc := 160) dL_sound_160 ?_
      refine n_iconst_4 (pc := 161) dL_sound_161 ?_
      refine r_iload14 (pc := 162) dL_sound_162 ?_
      refine n_bipush (pc := 164) 6 (by decide) dL_sound_164 ?_
      refine n_iconst_0 (pc := 166) dL_sound_166 ?_
      refine r_call5 (pc := 167) rfl rfl dL_sound_167 (s_ask b hT hO (by decide) (q_pl6' hO hk)) (by decide) (Nat.le_of_ble_eq_true rfl) ⟨by omega, by omega⟩ (fun M9 h9 => ?_)
      obtain ⟨hT, hY⟩ := h9
      have hX : ∀ i, 328 ≤ i → M9 i = M i := fun i hi => (hY i hi).trans (hX i hi)
      clear hY
      refine r_istore19 (pc := 170) dL_sound_170 rfl ?_
      refine r_aload0 (pc := 172) dL_sound_172 ?_
      refine n_iconst_3 (pc := 173) dL_sound_173 ?_
      refine r_iload15 (pc := 174) dL_sound_174 ?_
      refine r_iload2 (pc := 176) dL_sound_176 ?_
      refine n_irem (pc := 177) dL_sound_177 (by omega) (by omega) (by omega) ?_
      refine r_iload15 (pc := 178) dL_sound_178 ?_
      refine r_iload2 (pc := 180) dL_sound_180 ?_
      refine n_idiv (pc := 181) dL_sound_181 (by omega) (by omega) (by omega) ?_
      refine n_iconst_4 (pc := 182) dL_sound_182 ?_
      refine r_call5 (pc := 183) rfl rfl dL_sound_183 (s_ask b hT hO (by decide) (q_sq4 hO (hZ.fq hk))) (by decide) (Nat.le_of_ble_eq_true rfl) ⟨by omega, by omega⟩ (fun M9 h9 => ?_)
      obtain ⟨hT, hY⟩ := h9
      have hX : ∀ i, 328 ≤ i → M9 i = M i := fun i hi => (hY i hi).trans (hX i hi)
      clear hY
      refine r_istore20 (pc := 186) dL_sound_186 rfl ?_
      refine r_aload0 (pc := 188) dL_sound_188 ?_
      refine n_iconst_3 (pc := 189) dL_sound_189 ?_
      refine r_iload16 (pc := 190) dL_sound_190 ?_
      refine r_iload2 (pc := 192) dL_sound_192 ?_
      refine n_irem (pc := 193) dL_sound_193 (by omega) (by omega) (by omega) ?_
      refine r_iload16 (pc := 194) dL_sound_194 ?_
      refine r_iload2 (pc := 196) dL_sound_196 ?_
      refine n_idiv (pc := 197) dL_sound_197 (by omega) (by omega) (by omega) ?_
      refine n_iconst_4 (pc := 198) dL_sound_198 ?_
      refine r_call5 (pc := 199) rfl rfl dL_sound_199 (s_ask b hT hO (by decide) (q_sq4 hO (hZ.oq hk))) (by decide) (Nat.le_of_ble_eq_true rfl) ⟨by omega, by omega⟩ (fun M9 h9 => ?_)
      obtain ⟨hT, hY⟩ := h9
      have hX : ∀ i, 328 ≤ i → M9 i = M i := fun i hi => (hY i hi).trans (hX i hi)
      clear hY
      refine r_istore21 (pc := 202) dL_sound_202 rfl ?_
      refine r_aload0 (pc := 204) dL_sound_204 ?_
      refine n_iconst_3 (pc := 205) dL_sound_205 ?_
      refine r_iload15 (pc := 206) dL_sound_206 ?_
      refine r_iload2 (pc := 208) dL_sound_208 ?_
      refine n_irem (pc := 209) dL_sound_209 (by omega) (by omega) (by omega) ?_
      refine r_iload15 (pc := 210) dL_sound_210 ?_
      refine r_iload2 (pc := 212) dL_sound_212 ?_
      refine n_idiv (pc := 213) dL_sound_213 (by omega) (by omega) (by omega) ?_
      refine n_iconst_2 (pc := 214) dL_sound_214 ?_
      refine r_call5 (pc := 215) rfl rfl dL_sound_215 (s_ask b hT hO (by decide) (q_sq2 hO (hZ.fq hk))) (by decide) (Nat.le_of_ble_eq_true rfl) ⟨by omega, by omega⟩ (fun M9 h9 => ?_)
      obtain ⟨hT, hY⟩ := h9
      have hX : ∀ i, 328 ≤ i → M9 i = M i := fun i hi => (hY i hi).trans (hX i hi)
      clear hY
      refine r_aload0 (pc := 218) dL_sound_218 ?_
      refine n_iconst_3 (pc := 219) dL_sound_219 ?_
      refine r_iload16 (pc := 220) dL_sound_220 ?_
      refine r_iload2 (pc := 222) dL_sound_222 ?_
      refine n_irem (pc := 223) dL_sound_223 (by omega) (by omega) (by omega) ?_
      refine r_iload16 (pc := 224) dL_sound_224 ?_
      refine r_iload2 (pc := 226) dL_sound_226 ?_
      refine n_idiv (pc := 227) dL_sound_227 (by omega) (by omega) (by omega) ?_
      refine n_iconst_2 (pc := 228) dL_sound_228 ?_
      refine r_call5 (pc := 229) rfl rfl dL_sound_229 (s_ask b hT hO (by decide) (q_sq2 hO (hZ.oq hk))) (by decide) (Nat.le_of_ble_eq_true rfl) ⟨by omega, by omega⟩ (fun M9 h9 => ?_)
      obtain ⟨hT, hY⟩ := h9
      have hX : ∀ i, 328 ≤ i → M9 i = M i := fun i hi => (hY i hi).trans (hX i hi)
      clear hY
      first | refine n_iadd (pc := 232) dL_sound_232 ?_ | refine z_iadd (pc := 232) dL_sound_232 ?_ | refine r_iadd (pc := 232) dL_sound_232 ?_
      refine r_istore22 (pc := 233) dL_sound_233 rfl ?_
      refine r_iload6 (pc := 235) dL_sound_235 ?_
      refine r_iload22 (pc := 237) dL_sound_237 ?_
      first | refine n_iadd (pc := 239) dL_sound_239 ?_ | refine z_iadd (pc := 239) dL_sound_239 ?_ | refine r_iadd (pc := 239) dL_sound_239 ?_
      refine r_istore6 (pc := 240) dL_sound_240 rfl ?_
      refine r_iload7 (pc := 242) dL_sound_242 ?_
      refine r_iload19 (pc := 244) dL_sound_244 ?_
      first | refine n_iadd (pc := 246) dL_sound_246 ?_ | refine z_iadd (pc := 246) dL_sound_246 ?_ | refine r_iadd (pc := 246) dL_sound_246 ?_
      refine r_istore7 (pc := 247) dL_sound_247 rfl ?_
      refine r_iload8 (pc := 249) dL_sound_249 ?_
      refine r_iload18 (pc := 251) dL_sound_251 ?_
      first | refine n_iadd (pc := 253) dL_sound_253 ?_ | refine z_iadd (pc := 253) dL_sound_253 ?_ | refine r_iadd (pc := 253) dL_sound_253 ?_
      refine r_istore8 (pc := 254) dL_sound_254 rfl ?_
      refine r_iload9 (pc := 256) dL_sound_256 ?_
      refine r_aload0 (pc := 258) dL_sound_258 ?_
      refine n_iconst_4 (pc := 259) dL_sound_259 ?_
      refine r_iload14 (pc := 260) dL_sound_260 ?_
      refine n_iconst_5 (pc := 262) dL_sound_262 ?_
      refine n_iconst_0 (pc := 263) dL_sound_263 ?_
      refine r_call5 (pc := 264) rfl rfl dL_sound_264 (s_ask b hT hO (by decide) (q_pl5 hO hk)) (by decide) (Nat.le_of_ble_eq_true rfl) ⟨by omega, by omega⟩ (fun M9 h9 => ?_)
      obtain ⟨hT, hY⟩ := h9
      have hX : ∀ i, 328 ≤ i → M9 i = M i := fun i hi => (hY i hi).trans (hX i hi)
      clear hY
      first | refine n_iadd (pc := 267) dL_sound_267 ?_ | refine z_iadd (pc := 267) dL_sound_267 ?_ | refine r_iadd (pc := 267) dL_sound_267 ?_
      refine r_istore9 (pc := 268) dL_sound_268 rfl ?_
      refine r_lload11 (pc := 270) dL_sound_270 ?_
      refine r_lconst_1 (pc := 272) dL_sound_272 ?_
      refine r_iload17 (pc := 273) dL_sound_273 ?_
      refine r_lshl (pc := 275) dL_sound_275 ?_
      refine r_lor (pc := 276) dL_sound_276 ?_
      refine r_lstore11 (pc := 277) dL_sound_277 rfl ?_
      refine r_iload15 (pc := 279) dL_sound_279 ?_
      refine r_iload10 (pc := 281) dL_sound_281 ?_
      refine r_icmp_le (pc := 283) 449 (by decide) dL_sound_283 (fun h9 => absurd h9 (by rw [ge_nI (by omega)]; omega)) (fun _ => ?_)
      rcases alN_or hZ hk with ⟨l1, l2, l3⟩ | ⟨l1, l2⟩
      · refine r_iload16 (pc := 286) dL_sound_286 ?_
        refine r_iload19 (pc := 288) dL_sound_288 ?_
        refine n_iconst_1 (pc := 290) dL_sound_290 ?_
        refine n_icmp_ne (pc := 291) 301 (by decide) dL_sound_291 (by omega) (by omega) (fun hc291 => absurd hc291 (by omega)) (fun hc291 => ?_)
        refine r_iload15 (pc := 294) dL_sound_294 ?_
        refine n_iconst_1 (pc := 296) dL_sound_296 ?_
        first | refine n_iadd (pc := 297) dL_sound_297 ?_ | refine z_iadd (pc := 297) dL_sound_297 ?_ | refine r_iadd (pc := 297) dL_sound_297 ?_
        refine r_goto (pc := 298) 305 (by decide) dL_sound_298 ?_
        refine n_icmp_ne (pc := 305) 449 (by decide) dL_sound_305 (by omega) (by omega) (fun hc305 => absurd hc305 (by omega)) (fun hc305 => ?_)
        refine r_iload19 (pc := 308) dL_sound_308 ?_
        refine n_if_eq (pc := 310) 323 (by decide) dL_sound_310 (by omega) (fun hc310 => absurd hc310 (by omega)) (fun hc310 => ?_)
        refine r_iload15 (pc := 313) dL_sound_313 ?_
        refine r_iload2 (pc := 315) dL_sound_315 ?_
        refine n_irem (pc := 316) dL_sound_316 (by omega) (by omega) (by omega) ?_
        refine r_iload2 (pc := 317) dL_sound_317 ?_
        refine n_iconst_1 (pc := 318) dL_sound_318 ?_
        refine n_isub (pc := 319) dL_sound_319 (by omega) ?_
        refine n_icmp_ge (pc := 320) 449 (by decide) dL_sound_320 (by omega) (by omega) (fun hc320 => absurd hc320 (by omega)) (fun hc320 => ?_)
        refine G_widen rfl (show _ ≤ 16 + 20 * k by omega) (show _ ≤ 100 + 120 * k by omega) ?_
        exact s_sound1b hO hk ih hT hX hP hN hf
      · refine r_iload16 (pc := 286) dL_sound_286 ?_
        refine r_iload19 (pc := 288) dL_sound_288 ?_
        refine n_iconst_1 (pc := 290) dL_sound_290 ?_
        refine n_icmp_ne (pc := 291) 301 (by decide) dL_sound_291 (by omega) (by omega) (fun hc291 => ?_) (fun hc291 => absurd hc291 (by omega))
        refine r_iload15 (pc := 301) dL_sound_301 ?_
        refine r_iload2 (pc := 303) dL_sound_303 ?_
        first | refine n_iadd (pc := 304) dL_sound_304 ?_ | refine z_iadd (pc := 304) dL_sound_304 ?_ | refine r_iadd (pc := 304) dL_sound_304 ?_
        refine n_icmp_ne (pc := 305) 449 (by decide) dL_sound_305 (by omega) (by omega) (fun hc305 => absurd hc305 (by omega)) (fun hc305 => ?_)
        refine r_iload19 (pc := 308) dL_sound_308 ?_
        refine n_if_eq (pc := 310) 323 (by decide) dL_sound_310 (by omega) (fun hc310 => ?_) (fun hc310 => absurd hc310 (by omega))
        refine G_widen rfl (show _ ≤ 16 + 20 * k by omega) (show _ ≤ 100 + 120 * k by omega) ?_
        exact s_sound1b hO hk ih hT hX hP hN hf
  exact key 0 (by omega)
theorem rb_lt (b : Bool) : rb b < 328 := by cases b <;> decide
set_option maxRecDepth 20000 in
theorem s_sound (b : Bool) {M : Mem} {W : Bool → WS} (hT : TW M W) (hO : WOK (W b)) (hN : ∀ i, 328 ≤ i → M i = none) : SpecP mL_sound 11 1300 8000 [.ref (rb b)] M (tK M W (nI 1)) := by
  have hZ := hO.z
  have hd := hZ.dims
  have hX : ∀ i, 328 ≤ i → M i = M i := fun _ _ => rfl
  have hq2 : 2 * zt (wz (W b)) = zc (wz (W b)) * zr (wz (W b)) := by have e : zq (wz (W b)) = zc (wz (W b)) * zr (wz (W b)) := rfl; omega
  refine Spec_of [some (.ref (rb b)), none, none, none, none, none, none, none, none, none, none, none, none, none, none, none, none, none, none, none, none, none, none] (by decide) (Nat.le_of_ble_eq_true rfl) rfl ?_
  refine r_aload0 (pc := 0) dL_sound_0 ?_
  refine n_iconst_2 (pc := 1) dL_sound_1 ?_
  refine n_iconst_0 (pc := 2) dL_sound_2 ?_
  refine n_iconst_0 (pc := 3) dL_sound_3 ?_
  refine n_iconst_0 (pc := 4) dL_sound_4 ?_
  refine r_call5 (pc := 5) rfl rfl dL_sound_5 (s_ask b hT hO (by decide) q_ab0) (by decide) (Nat.le_of_ble_eq_true rfl) ⟨by decide, by decide⟩ (fun M9 h9 => ?_)
  obtain ⟨hT, hY⟩ := h9
  have hX : ∀ i, 328 ≤ i → M9 i = M i := fun i hi => (hY i hi).trans (hX i hi)
  clear hY
  refine r_istore1 (pc := 8) dL_sound_8 rfl ?_
  refine r_aload0 (pc := 9) dL_sound_9 ?_
  refine n_iconst_2 (pc := 10) dL_sound_10 ?_
  refine n_iconst_2 (pc := 11) dL_sound_11 ?_
  refine n_iconst_0 (pc := 12) dL_sound_12 ?_
  refine n_iconst_0 (pc := 13) dL_sound_13 ?_
  refine r_call5 (pc := 14) rfl rfl dL_sound_14 (s_ask b hT hO (by decide) q_ab2) (by decide) (Nat.le_of_ble_eq_true rfl) ⟨by decide, by decide⟩ (fun M9 h9 => ?_)
  obtain ⟨hT, hY⟩ := h9
  have hX : ∀ i, 328 ≤ i → M9 i = M i := fun i hi => (hY i hi).trans (hX i hi)
  clear hY
  refine r_istore2 (pc := 17) dL_sound_17 rfl ?_
  refine r_aload0 (pc := 18) dL_sound_18 ?_
  refine n_iconst_2 (pc := 19) dL_sound_19 ?_
  refine n_iconst_3 (pc := 20) dL_sound_20 ?_
  refine n_iconst_0 (pc := 21) dL_sound_21 ?_
  refine n_iconst_0 (pc := 22) dL_sound_22 ?_
  refine r_call5 (pc := 23) rfl rfl dL_sound_23 (s_ask b hT hO (by decide) q_ab3) (by decide) (Nat.le_of_ble_eq_true rfl) ⟨by decide, by decide⟩ (fun M9 h9 => ?_)
  obtain ⟨hT, hY⟩ := h9
  have hX : ∀ i, 328 ≤ i → M9 i = M i := fun i hi => (hY i hi).trans (hX i hi)
  clear hY
  refine r_istore3 (pc := 26) dL_sound_26 rfl ?_
  refine r_aload0 (pc := 27) dL_sound_27 ?_
  refine n_iconst_2 (pc := 28) dL_sound_28 ?_
  refine n_iconst_4 (pc := 29) dL_sound_29 ?_
  refine n_iconst_0 (pc := 30) dL_sound_30 ?_
  refine n_iconst_0 (pc := 31) dL_sound_31 ?_
  refine r_call5 (pc := 32) rfl rfl dL_sound_32 (s_ask b hT hO (by decide) q_ab4) (by decide) (Nat.le_of_ble_eq_true rfl) ⟨by decide, by decide⟩ (fun M9 h9 => ?_)
  obtain ⟨hT, hY⟩ := h9
  have hX : ∀ i, 328 ≤ i → M9 i = M i := fun i hi => (hY i hi).trans (hX i hi)
  clear hY
  refine r_istore4 (pc := 35) dL_sound_35 rfl ?_
  refine n_bipush (pc := 37) 7 (by decide) dL_sound_37 ?_
  have hN9 : ∀ i, 328 ≤ i → M9 i = none := fun i hi => (hX i hi).trans (hN i hi)
  refine G_tmp (pc := 39) (oc' := (tP (some (.int (nI 1))) (fun Mf => TW Mf W ∧ ∀ i, 329 ≤ i → Mf i = none))) (hT.clo hN9) ⟨rb_lt b, True.intro⟩ dL_sound_39 (by decide) (by decide) (fun v M' h9 => ?_) ?_
  · obtain ⟨e9, h8, h7⟩ := h9
    cases e9
    have hdel : TW (mdel M') W := h8.ext (fun i hi => mdel_ne (by omega))
    have hnone : ∀ i, 328 ≤ i → mdel M' i = none := fun i hi => by
      by_cases e : i = 328
      · subst e; rfl
      · rw [mdel_ne e]; exact h7 i (by omega)
    exact ⟨⟨_, rfl⟩, hdel.clo hnone, rfl, hdel, fun i hi => (hnone i hi).trans (hN i hi).symm⟩
  obtain ⟨M1, e1⟩ : ∃ M1, M1 = mset M9 328 (cI 7 (fun _ => 0)) := ⟨_, rfl⟩
  rw [← e1]
  have hP1 : M1 328 = some (cI 7 (fun _ => 0)) := by rw [e1]; exact mset_same
  have hN1 : ∀ i, 329 ≤ i → M1 i = none := fun i hi => by rw [e1, mset_ne (by omega)]; exact hN9 i (by omega)
  have hT1 : TW M1 W := by rw [e1]; exact hT.ext (fun i hi => mset_ne (by omega))
  clear e1 hN9 hX hT
  have hT := hT1
  have key := s_sound1 (b := b) (W := W) hO
  refine r_astore5 (pc := 41) dL_sound_41 rfl ?_
  refine n_iconst_0 (pc := 43) dL_sound_43 ?_
  refine r_istore6 (pc := 44) dL_sound_44 rfl ?_
  refine n_iconst_0 (pc := 46) dL_sound_46 ?_
  refine r_istore7 (pc := 47) dL_sound_47 rfl ?_
  refine n_iconst_0 (pc := 49) dL_sound_49 ?_
  refine r_istore8 (pc := 50) dL_sound_50 rfl ?_
  refine n_iconst_0 (pc := 52) dL_sound_52 ?_
  refine r_istore9 (pc := 53) dL_sound_53 rfl ?_
  refine r_iconst_m1 (pc := 55) dL_sound_55 ?_
  refine r_istore10 (pc := 56) dL_sound_56 rfl ?_
  refine r_lconst_0 (pc := 58) dL_sound_58 ?_
  refine r_lstore11 (pc := 59) dL_sound_59 rfl ?_
  refine r_iload2 (pc := 61) dL_sound_61 ?_
  refine r_iload1 (pc := 62) dL_sound_62 ?_
  refine n_iconst_2 (pc := 63) dL_sound_63 ?_
  first | refine n_iadd (pc := 64) dL_sound_64 ?_ | refine z_iadd (pc := 64) dL_sound_64 ?_ | refine r_iadd (pc := 64) dL_sound_64 ?_
  refine r_icmp_ne (pc := 65) 98 (by decide) dL_sound_65 (fun h9 => absurd rfl h9) (fun _ => ?_)
  refine r_iload3 (pc := 68) dL_sound_68 ?_
  refine r_iload1 (pc := 69) dL_sound_69 ?_
  refine n_iconst_1 (pc := 70) dL_sound_70 ?_
  first | refine n_iadd (pc := 71) dL_sound_71 ?_ | refine z_iadd (pc := 71) dL_sound_71 ?_ | refine r_iadd (pc := 71) dL_sound_71 ?_
  refine r_aload0 (pc := 72) dL_sound_72 ?_
  refine n_iconst_2 (pc := 73) dL_sound_73 ?_
  refine n_iconst_1 (pc := 74) dL_sound_74 ?_
  refine n_iconst_0 (pc := 75) dL_sound_75 ?_
  refine n_iconst_0 (pc := 76) dL_sound_76 ?_
  refine r_call5 (pc := 77) rfl rfl dL_sound_77 (s_ask b hT hO (by decide) q_ab1) (by decide) (Nat.le_of_ble_eq_true rfl) ⟨by decide, by decide⟩ (fun M9 h9 => ?_)
  obtain ⟨hT, hY⟩ := h9
  first | refine n_imul (pc := 80) dL_sound_80 ?_ | refine z_imul (pc := 80) dL_sound_80 ?_ | refine r_imul (pc := 80) dL_sound_80 ?_
  refine r_icmp_ne (pc := 81) 98 (by decide) dL_sound_81 (fun h9 => absurd rfl h9) (fun _ => ?_)
  refine n_iconst_2 (pc := 84) dL_sound_84 ?_
  refine r_iload4 (pc := 85) dL_sound_85 ?_
  first | refine n_imul (pc := 87) dL_sound_87 ?_ | refine z_imul (pc := 87) dL_sound_87 ?_ | refine r_imul (pc := 87) dL_sound_87 ?_
  refine r_iload2 (pc := 88) dL_sound_88 ?_
  refine r_iload3 (pc := 89) dL_sound_89 ?_
  first | refine n_imul (pc := 90) dL_sound_90 ?_ | refine z_imul (pc := 90) dL_sound_90 ?_ | refine r_imul (pc := 90) dL_sound_90 ?_
  refine r_icmp_ne (pc := 91) 98 (by decide) dL_sound_91 (fun h9 => absurd (congrArg nI hq2) h9) (fun _ => ?_)
  refine n_iconst_1 (pc := 94) dL_sound_94 ?_
  refine r_goto (pc := 95) 99 (by decide) dL_sound_95 ?_
  refine r_istore13 (pc := 99) dL_sound_99 rfl ?_
  refine n_iconst_0 (pc := 101) dL_sound_101 ?_
  refine r_istore14 (pc := 102) dL_sound_102 rfl ?_
  refine G_widen rfl (show _ ≤ 6 + 20 * 0 by decide) (show _ ≤ 40 + 120 * 0 by decide) ?_
  exact key M9 (fun _ => 0) (nI 0) (-1) _ _ _ _ _ _ _ _ hT ((hY 328 (by decide)).trans hP1) (fun i hi => (hY i (by omega)).trans (hN1 i hi)) (fun p hp => rfl) (iI_nat 0) (fun j hj hj2 => by show (-1 : Int32).toInt < _; rw [show (-1 : Int32).toInt = -1 from rfl]; omega)
end SOUND

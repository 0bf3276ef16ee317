/-! changes: they gain what was told, and their undo -/
def tE (M : Mem) : TG := tP (some (.int (nI 1))) (fun Mf => ∃ w', WOK w' ∧ TW Mf (W2 w' w') ∧ ∀ i, 328 ≤ i → Mf i = M i)
theorem iI_neS {g : Int} (h1 : -1200000 ≤ g) (h2 : g ≤ 1200000) : ¬ iI g = -9999003 := by
  rw [show (-9999003 : Int32) = iI (-9999003) from rfl, iI_inj (by omega) (by omega) (by omega) (by omega)]
  omega
theorem iI_neA {g : Int} (h1 : -1200000 ≤ g) (h2 : g ≤ 1200000) : ¬ iI g = -9999002 := by
  rw [show (-9999002 : Int32) = iI (-9999002) from rfl, iI_inj (by omega) (by omega) (by omega) (by omega)]
  omega
theorem iI_neX {g : Int} (h1 : -1200000 ≤ g) (h2 : g ≤ 1200000) : ¬ iI g = -9999001 := by
  rw [show (-9999001 : Int32) = iI (-9999001) from rfl, iI_inj (by omega) (by omega) (by omega) (by omega)]
  omega
theorem s_thrU {M : Mem} {w : WS} (hO : WOK w) : Spec mL_thrown 1 0 0 [.int (nI (wk (wRem w) - 1))] M (some (.int (nI 0))) M := by
  have h1 := wk_rem w hO
  have h2 := iI_neX (g := ((wk (wRem w) - 1 : Nat) : Int)) (by omega) (by omega)
  have h3 := iI_neA (g := ((wk (wRem w) - 1 : Nat) : Int)) (by omega) (by omega)
  have h4 := iI_neS (g := ((wk (wRem w) - 1 : Nat) : Int)) (by omega) (by omega)
  rw [← iI_nat] at h2 h3 h4
  exact s_thr0 h2 h3 h4
section CHG
variable {M M1 : Mem} {w w1 w2 : WS} {a b c : Int32}
theorem b_ask0 (hT : TW M (W2 w1 w2)) (hO : WOK w1) {k : Nat} (hk : k ≤ 20) {a b c v : Int32} (h : cA k a b c w1 = (v, w1)) : SpecP mL_call 10 1 6 [.ref 0, .int (nI k), .int a, .int b, .int c] M (tK M (W2 w1 w2) v) := s_ask false hT hO hk h
theorem b_ask1 (hT : TW M (W2 w1 w2)) (hO : WOK w2) {k : Nat} (hk : k ≤ 20) {a b c v : Int32} (h : cA k a b c w2 = (v, w2)) : SpecP mL_call 10 1 6 [.ref 164, .int (nI k), .int a, .int b, .int c] M (tK M (W2 w1 w2) v) := s_ask true hT hO hk h
theorem sq_bk {z : ZS} {s : Nat} : s / zc z * zc z + s % zc z = s := by rw [Nat.mul_comm, Nat.div_add_mod]
theorem do_flips (hO : WOK w) {s k l : Nat} (hs : s < zq (wz w)) (hc : canF (wz w) s = some (k, l)) : cA 11 (nI (s % zc (wz w))) (nI (s / zc (wz w))) c w = (iI (fgZ (wz w) k l), wAct w (flipZ (wz w) k l)) := by
  have hd := hO.z.dims
  exact do_flip hO (Nat.mod_lt _ (by omega)) (Nat.div_lt_of_lt_mul hs) (by rw [sq_bk]; exact hc)
theorem x_flips (hO : WOK w) {s : Nat} (hs : s < zq (wz w)) (hc : canF (wz w) s = none) : cA 11 (nI (s % zc (wz w))) (nI (s / zc (wz w))) c w = (cST, w) := by
  have hd := hO.z.dims
  exact x_flipS hO (Nat.mod_lt _ (by omega)) (Nat.div_lt_of_lt_mul hs) (by rw [sq_bk]; exact hc)
set_option maxRecDepth 20000 in
theorem s_gains3 (hT : TW M1 (W2 w w)) (hO : WOK w) (hX : ∀ i, 328 ≤ i → M1 i = M i) {X k l : Nat} (hX0 : X < 2147483648) {a8 a9 a11 : Option Value} : G mL_gains 11 (.inl false) 30 180 (tE M) none 20 120 403 [some (.ref 0), some (.ref 164), some (.int (nI X)), some (.int (nI (zt (wz w)))), some (.int (nI (zc (wz w)))), some (.int (nI k)), some (.int (nI l)), some (.int (iI (erAll (wz w)))), a8, a9, some (.int (nI 1)), a11] [] M1 := by
  have hZ := hO.z
  have hd := hZ.dims
  have hz0 := hZ.erAllN (zt (wz w)) (Nat.le_refl _)
  have hs : X / 5 % (2 * zt (wz w)) < zq (wz w) := by have := Nat.mod_lt (X / 5) (show 0 < 2 * zt (wz w) by omega); omega
  refine r_iload2 (pc := 403) dL_gains_403 ?_
  refine n_iconst_5 (pc := 404) dL_gains_404 ?_
  refine n_idiv (pc := 405) dL_gains_405 (by omega) (by omega) (by omega) ?_
  refine n_iconst_2 (pc := 406) dL_gains_406 ?_
  refine r_iload3 (pc := 407) dL_gains_407 ?_
  first | refine n_imul (pc := 408) dL_gains_408 ?_ | refine z_imul (pc := 408) dL_gains_408 ?_ | refine r_imul (pc := 408) dL_gains_408 ?_
  refine n_irem (pc := 409) dL_gains_409 (by omega) (by omega) (by omega) ?_
  refine r_istore11 (pc := 410) dL_gains_410 rfl ?_
  generalize X / 5 % (2 * zt (wz w)) = s at hs ⊢
  cases hb : blk (wz w) s with
  | none =>
    have hc : canF (wz w) s = none := by unfold canF; rw [hb]
    have hp : posZ (wz w) (20000 + s) = false := by rw [(gn_flip (z := (wz w)) (s := s) (by omega)).1, hb]; rfl
    refine r_aload0 (pc := 412) dL_gains_412 ?_
    refine n_bipush (pc := 413) 14 (by decide) dL_gains_413 ?_
    refine n_sipush (pc := 415) 20000 (by decide) dL_gains_415 ?_
    refine r_iload11 (pc := 418) dL_gains_418 ?_
    first | refine n_iadd (pc := 420) dL_gains_420 ?_ | refine z_iadd (pc := 420) dL_gains_420 ?_ | refine r_iadd (pc := 420) dL_gains_420 ?_
    refine n_iconst_0 (pc := 421) dL_gains_421 ?_
    refine n_iconst_0 (pc := 422) dL_gains_422 ?_
    refine r_call5 (pc := 423) rfl rfl dL_gains_423 (b_ask0 hT hO (by decide) (x_gainP (by omega) hp)) (by decide) (Nat.le_of_ble_eq_true rfl) ⟨by decide, by decide⟩ (fun M9 h9 => ?_)
    obtain ⟨hT, hY⟩ := h9
    have hX : ∀ i, 328 ≤ i → M9 i = M i := fun i hi => (hY i hi).trans (hX i hi)
    clear hY
    refine r_istore8 (pc := 426) dL_gains_426 rfl ?_
    refine r_aload0 (pc := 428) dL_gains_428 ?_
    refine n_bipush (pc := 429) 11 (by decide) dL_gains_429 ?_
    refine r_iload11 (pc := 431) dL_gains_431 ?_
    refine r_iload4 (pc := 433) dL_gains_433 ?_
    refine n_irem (pc := 435) dL_gains_435 (by omega) (by omega) (by omega) ?_
    refine r_iload11 (pc := 436) dL_gains_436 ?_
    refine r_iload4 (pc := 438) dL_gains_438 ?_
    refine n_idiv (pc := 440) dL_gains_440 (by omega) (by omega) (by omega) ?_
    refine n_iconst_0 (pc := 441) dL_gains_441 ?_
    refine r_call5 (pc := 442) rfl rfl dL_gains_442 (b_ask0 hT hO (by decide) (x_flips hO hs hc)) (by decide) (Nat.le_of_ble_eq_true rfl) ⟨by decide, by decide⟩ (fun M9 h9 => ?_)
    obtain ⟨hT, hY⟩ := h9
    have hX : ∀ i, 328 ≤ i → M9 i = M i := fun i hi => (hY i hi).trans (hX i hi)
    clear hY
    refine r_istore9 (pc := 445) dL_gains_445 rfl ?_
    refine r_iload10 (pc := 447) dL_gains_447 ?_
    refine n_if_eq (pc := 449) 492 (by decide) dL_gains_449 (by omega) (fun hc449 => absurd hc449 (by omega)) (fun hc449 => ?_)
    refine r_aload1 (pc := 452) dL_gains_452 ?_
    refine n_bipush (pc := 453) 11 (by decide) dL_gains_453 ?_
    refine r_iload11 (pc := 455) dL_gains_455 ?_
    refine r_iload4 (pc := 457) dL_gains_457 ?_
    refine n_irem (pc := 459) dL_gains_459 (by omega) (by omega) (by omega) ?_
    refine r_iload11 (pc := 460) dL_gains_460 ?_
    refine r_iload4 (pc := 462) dL_gains_462 ?_
    refine n_idiv (pc := 464) dL_gains_464 (by omega) (by omega) (by omega) ?_
    refine n_iconst_0 (pc := 465) dL_gains_465 ?_
    refine r_call5 (pc := 466) rfl rfl dL_gains_466 (b_ask1 hT hO (by decide) (x_flips hO hs hc)) (by decide) (Nat.le_of_ble_eq_true rfl) ⟨by decide, by decide⟩ (fun M9 h9 => ?_)
    obtain ⟨hT, hY⟩ := h9
    have hX : ∀ i, 328 ≤ i → M9 i = M i := fun i hi => (hY i hi).trans (hX i hi)
    clear hY
    refine r_iload9 (pc := 469) dL_gains_469 ?_
    refine r_icmp_ne (pc := 471) 492 (by decide) dL_gains_471 (fun h9 => absurd rfl h9) (fun _ => ?_)
    refine r_iload8 (pc := 474) dL_gains_474 ?_
    refine r_ldc (v := -9999002) (pc := 476) (tG 410 (by decide +kernel) (by decide +kernel)) dL_gains_476 ?_
    refine r_icmp_ne (pc := 478) 488 (by decide) dL_gains_478 (fun h9 => absurd rfl h9) (fun _ => ?_)
    refine r_iload9 (pc := 481) dL_gains_481 ?_
    refine r_ldc (v := -9999003) (pc := 483) (tG 411 (by decide +kernel) (by decide +kernel)) dL_gains_483 ?_
    refine r_icmp_ne (pc := 485) 492 (by decide) dL_gains_485 (fun h9 => absurd rfl h9) (fun _ => ?_)
    refine n_iconst_1 (pc := 488) dL_gains_488 ?_
    refine r_goto (pc := 489) 493 (by decide) dL_gains_489 ?_
    refine r_istore10 (pc := 493) dL_gains_493 rfl ?_
    refine r_iload9 (pc := 495) dL_gains_495 ?_
    refine r_ldc (v := -9999003) (pc := 497) (tG 411 (by decide +kernel) (by decide +kernel)) dL_gains_497 ?_
    refine r_icmp_eq (pc := 499) 587 (by decide) dL_gains_499 (fun _ => ?_) (fun h9 => absurd rfl h9)
    refine r_iload10 (pc := 587) dL_gains_587 ?_
    refine n_if_eq (pc := 589) 609 (by decide) dL_gains_589 (by omega) (fun hc589 => absurd hc589 (by omega)) (fun hc589 => ?_)
    refine r_aload0 (pc := 592) dL_gains_592 ?_
    refine n_iconst_2 (pc := 593) dL_gains_593 ?_
    refine n_iconst_5 (pc := 594) dL_gains_594 ?_
    refine n_iconst_0 (pc := 595) dL_gains_595 ?_
    refine n_iconst_0 (pc := 596) dL_gains_596 ?_
    refine r_call5 (pc := 597) rfl rfl dL_gains_597 (b_ask0 hT hO (by decide) q_ab5) (by decide) (Nat.le_of_ble_eq_true rfl) ⟨by decide, by decide⟩ (fun M9 h9 => ?_)
    obtain ⟨hT, hY⟩ := h9
    have hX : ∀ i, 328 ≤ i → M9 i = M i := fun i hi => (hY i hi).trans (hX i hi)
    clear hY
    refine r_iload7 (pc := 600) dL_gains_600 ?_
    refine r_icmp_ne (pc := 602) 609 (by decide) dL_gains_602 (fun h9 => absurd rfl h9) (fun _ => ?_)
    refine n_iconst_1 (pc := 605) dL_gains_605 ?_
    refine r_goto (pc := 606) 610 (by decide) dL_gains_606 ?_
    exact p_ireturn (pc := 610) false rfl rfl (by decide) dL_gains_610 (by decide) (by decide) (Or.inl rfl) ⟨rfl, w, hO, hT, hX⟩
  | some k0 =>
    obtain ⟨q1, q2, q3⟩ := (blk_some hZ).mp hb
    obtain ⟨l0, hp⟩ := Option.isSome_iff_exists.mp q3
    have hcc := canF_of hb hp
    have fb := fg_b hZ q1 hp
    by_cases hfree : zH (wz w) k0 = 0 ∧ zH (wz w) l0 = 0
    · rw [if_pos hfree] at hcc
      have hok := flipZ_ok hZ q1 hp
      have hOt : WOK (wAct w (flipZ (wz w) k0 l0)) := hO.act ⟨hok, flipZ_tok hZ hO.t q1 hp⟩
      have hgain := flip_gain hZ q1 hp
      obtain ⟨k', l', b1, b2, b3⟩ := flip_back hZ q1 hp
      rw [q2] at b1
      have fb' := fg_b hok ((blk_some hok).mp b1).1 b2
      have hab : cA 2 (nI 5) (nI 0) (nI 0) (wAct w (flipZ (wz w) k0 l0)) = (iI (erAll (wz w) - fgZ (wz w) k0 l0), wAct w (flipZ (wz w) k0 l0)) := by
        rw [q_ab5]
        show (iI (erAll (flipZ (wz w) k0 l0)), _) = _
        rw [show erAll (flipZ (wz w) k0 l0) = erAll (wz w) - fgZ (wz w) k0 l0 by omega]
      have hg : cA 14 (nI (20000 + s)) (nI 0) (nI 0) (wAct w (flipZ (wz w) k0 l0)) = (iI (fgZ (flipZ (wz w) k0 l0) k' l'), wAct w (flipZ (wz w) k0 l0)) := q_gainF (w := wAct w (flipZ (wz w) k0 l0)) (by omega) b1 b2
      refine r_aload0 (pc := 412) dL_gains_412 ?_
      refine n_bipush (pc := 413) 14 (by decide) dL_gains_413 ?_
      refine n_sipush (pc := 415) 20000 (by decide) dL_gains_415 ?_
      refine r_iload11 (pc := 418) dL_gains_418 ?_
      first | refine n_iadd (pc := 420) dL_gains_420 ?_ | refine z_iadd (pc := 420) dL_gains_420 ?_ | refine r_iadd (pc := 420) dL_gains_420 ?_
      refine n_iconst_0 (pc := 421) dL_gains_421 ?_
      refine n_iconst_0 (pc := 422) dL_gains_422 ?_
      refine r_call5 (pc := 423) rfl rfl dL_gains_423 (b_ask0 hT hO (by decide) (q_gainF (by omega) hb hp)) (by decide) (Nat.le_of_ble_eq_true rfl) ⟨by decide, by decide⟩ (fun M9 h9 => ?_)
      obtain ⟨hT, hY⟩ := h9
      have hX : ∀ i, 328 ≤ i → M9 i = M i := fun i hi => (hY i hi).trans (hX i hi)
      clear hY
      refine r_istore8 (pc := 426) dL_gains_426 rfl ?_
      refine r_aload0 (pc := 428) dL_gains_428 ?_
      refine n_bipush (pc := 429) 11 (by decide) dL_gains_429 ?_
      refine r_iload11 (pc := 431) dL_gains_431 ?_
      refine r_iload4 (pc := 433) dL_gains_433 ?_
      refine n_irem (pc := 435) dL_gains_435 (by omega) (by omega) (by omega) ?_
      refine r_iload11 (pc := 436) dL_gains_436 ?_
      refine r_iload4 (pc := 438) dL_gains_438 ?_
      refine n_idiv (pc := 440) dL_gains_440 (by omega) (by omega) (by omega) ?_
      refine n_iconst_0 (pc := 441) dL_gains_441 ?_
      refine r_call5 (pc := 442) rfl rfl dL_gains_442 (s_do0 hT hO (by decide) (do_flips hO hs hcc)) (by decide) (Nat.le_of_ble_eq_true rfl) ⟨by decide, by decide⟩ (fun M9 h9 => ?_)
      obtain ⟨hT, hY⟩ := h9
      have hX : ∀ i, 328 ≤ i → M9 i = M i := fun i hi => (hY i hi).trans (hX i hi)
      clear hY
      refine r_istore9 (pc := 445) dL_gains_445 rfl ?_
      refine r_iload10 (pc := 447) dL_gains_447 ?_
      refine n_if_eq (pc := 449) 492 (by decide) dL_gains_449 (by omega) (fun hc449 => absurd hc449 (by omega)) (fun hc449 => ?_)
      refine r_aload1 (pc := 452) dL_gains_452 ?_
      refine n_bipush (pc := 453) 11 (by decide) dL_gains_453 ?_
      refine r_iload11 (pc := 455) dL_gains_455 ?_
      refine r_iload4 (pc := 457) dL_gains_457 ?_
      refine n_irem (pc := 459) dL_gains_459 (by omega) (by omega) (by omega) ?_
      refine r_iload11 (pc := 460) dL_gains_460 ?_
      refine r_iload4 (pc := 462) dL_gains_462 ?_
      refine n_idiv (pc := 464) dL_gains_464 (by omega) (by omega) (by omega) ?_
      refine n_iconst_0 (pc := 465) dL_gains_465 ?_
      refine r_call5 (pc := 466) rfl rfl dL_gains_466 (s_do1 hT hO (by decide) (do_flips hO hs hcc)) (by decide) (Nat.le_of_ble_eq_true rfl) ⟨by decide, by decide⟩ (fun M9 h9 => ?_)
      obtain ⟨hT, hY⟩ := h9
      have hX : ∀ i, 328 ≤ i → M9 i = M i := fun i hi => (hY i hi).trans (hX i hi)
      clear hY
      refine r_iload9 (pc := 469) dL_gains_469 ?_
      refine r_icmp_ne (pc := 471) 492 (by decide) dL_gains_471 (fun h9 => absurd rfl h9) (fun _ => ?_)
      refine r_iload8 (pc := 474) dL_gains_474 ?_
      refine r_ldc (v := -9999002) (pc := 476) (tG 410 (by decide +kernel) (by decide +kernel)) dL_gains_476 ?_
      refine r_icmp_ne (pc := 478) 488 (by decide) dL_gains_478 (fun _ => ?_) (fun h9 => absurd h9 (iI_neA (by omega) (by omega)))
      refine n_iconst_1 (pc := 488) dL_gains_488 ?_
      refine r_goto (pc := 489) 493 (by decide) dL_gains_489 ?_
      refine r_istore10 (pc := 493) dL_gains_493 rfl ?_
      refine r_iload9 (pc := 495) dL_gains_495 ?_
      refine r_ldc (v := -9999003) (pc := 497) (tG 411 (by decide +kernel) (by decide +kernel)) dL_gains_497 ?_
      refine r_icmp_eq (pc := 499) 587 (by decide) dL_gains_499 (fun h9 => absurd h9 (iI_neS (by omega) (by omega))) (fun _ => ?_)
      refine r_iload10 (pc := 502) dL_gains_502 ?_
      refine n_if_eq (pc := 504) 584 (by decide) dL_gains_504 (by omega) (fun hc504 => absurd hc504 (by omega)) (fun hc504 => ?_)
      refine r_iload9 (pc := 507) dL_gains_507 ?_
      refine r_iload8 (pc := 509) dL_gains_509 ?_
      refine r_icmp_ne (pc := 511) 584 (by decide) dL_gains_511 (fun h9 => absurd rfl h9) (fun _ => ?_)
      refine r_aload0 (pc := 514) dL_gains_514 ?_
      refine n_iconst_2 (pc := 515) dL_gains_515 ?_
      refine n_iconst_5 (pc := 516) dL_gains_516 ?_
      refine n_iconst_0 (pc := 517) dL_gains_517 ?_
      refine n_iconst_0 (pc := 518) dL_gains_518 ?_
      refine r_call5 (pc := 519) rfl rfl dL_gains_519 (b_ask0 hT hOt (by decide) hab) (by decide) (Nat.le_of_ble_eq_true rfl) ⟨by decide, by decide⟩ (fun M9 h9 => ?_)
      obtain ⟨hT, hY⟩ := h9
      have hX : ∀ i, 328 ≤ i → M9 i = M i := fun i hi => (hY i hi).trans (hX i hi)
      clear hY
      refine r_iload7 (pc := 522) dL_gains_522 ?_
      refine r_iload8 (pc := 524) dL_gains_524 ?_
      first | refine n_isubI (pc := 526) dL_gains_526 ?_ | refine z_isub (pc := 526) dL_gains_526 ?_ | refine r_isub (pc := 526) dL_gains_526 ?_
      refine r_icmp_ne (pc := 527) 584 (by decide) dL_gains_527 (fun h9 => absurd rfl h9) (fun _ => ?_)
      refine r_aload0 (pc := 530) dL_gains_530 ?_
      refine n_bipush (pc := 531) 14 (by decide) dL_gains_531 ?_
      refine n_sipush (pc := 533) 20000 (by decide) dL_gains_533 ?_
      refine r_iload11 (pc := 536) dL_gains_536 ?_
      first | refine n_iadd (pc := 538) dL_gains_538 ?_ | refine z_iadd (pc := 538) dL_gains_538 ?_ | refine r_iadd (pc := 538) dL_gains_538 ?_
      refine n_iconst_0 (pc := 539) dL_gains_539 ?_
      refine n_iconst_0 (pc := 540) dL_gains_540 ?_
      refine r_call5 (pc := 541) rfl rfl dL_gains_541 (b_ask0 hT hOt (by decide) hg) (by decide) (Nat.le_of_ble_eq_true rfl) ⟨by decide, by decide⟩ (fun M9 h9 => ?_)
      obtain ⟨hT, hY⟩ := h9
      have hX : ∀ i, 328 ≤ i → M9 i = M i := fun i hi => (hY i hi).trans (hX i hi)
      clear hY
      refine r_iload8 (pc := 544) dL_gains_544 ?_
      first | refine z_ineg (pc := 546) dL_gains_546 ?_ | refine r_ineg (pc := 546) dL_gains_546 ?_
      refine z_icmp_lt (pc := 547) 584 (by decide) dL_gains_547 (by omega) (by omega) (by omega) (by omega) (fun hc547 => absurd hc547 (by omega)) (fun hc547 => ?_)
      refine r_aload0 (pc := 550) dL_gains_550 ?_
      refine n_bipush (pc := 551) 13 (by decide) dL_gains_551 ?_
      refine n_iconst_0 (pc := 553) dL_gains_553 ?_
      refine n_iconst_0 (pc := 554) dL_gains_554 ?_
      refine n_iconst_0 (pc := 555) dL_gains_555 ?_
      refine r_call5 (pc := 556) rfl rfl dL_gains_556 (s_do0 hT hOt (by decide) (do_undo hO _)) (by decide) (Nat.le_of_ble_eq_true rfl) ⟨by decide, by decide⟩ (fun M9 h9 => ?_)
      obtain ⟨hT, hY⟩ := h9
      have hX : ∀ i, 328 ≤ i → M9 i = M i := fun i hi => (hY i hi).trans (hX i hi)
      clear hY
      refine r_callS1i (pc := 559) lk_L_221 dL_gains_559 (s_thrU hO) (by decide) (Nat.le_of_ble_eq_true rfl) ⟨by decide, by decide⟩ ?_
      refine n_if_ne (pc := 562) 584 (by decide) dL_gains_562 (by omega) (fun hc562 => absurd hc562 (by omega)) (fun hc562 => ?_)
      refine r_aload1 (pc := 565) dL_gains_565 ?_
      refine n_bipush (pc := 566) 13 (by decide) dL_gains_566 ?_
      refine n_iconst_0 (pc := 568) dL_gains_568 ?_
      refine n_iconst_0 (pc := 569) dL_gains_569 ?_
      refine n_iconst_0 (pc := 570) dL_gains_570 ?_
      refine r_call5 (pc := 571) rfl rfl dL_gains_571 (s_do1 hT hOt (by decide) (do_undo hO _)) (by decide) (Nat.le_of_ble_eq_true rfl) ⟨by decide, by decide⟩ (fun M9 h9 => ?_)
      obtain ⟨hT, hY⟩ := h9
      have hX : ∀ i, 328 ≤ i → M9 i = M i := fun i hi => (hY i hi).trans (hX i hi)
      clear hY
      refine r_callS1i (pc := 574) lk_L_221 dL_gains_574 (s_thrU hO) (by decide) (Nat.le_of_ble_eq_true rfl) ⟨by decide, by decide⟩ ?_
      refine n_if_ne (pc := 577) 584 (by decide) dL_gains_577 (by omega) (fun hc577 => absurd hc577 (by omega)) (fun hc577 => ?_)
      refine n_iconst_1 (pc := 580) dL_gains_580 ?_
      refine r_goto (pc := 581) 585 (by decide) dL_gains_581 ?_
      refine r_istore10 (pc := 585) dL_gains_585 rfl ?_
      refine r_iload10 (pc := 587) dL_gains_587 ?_
      refine n_if_eq (pc := 589) 609 (by decide) dL_gains_589 (by omega) (fun hc589 => absurd hc589 (by omega)) (fun hc589 => ?_)
      refine r_aload0 (pc := 592) dL_gains_592 ?_
      refine n_iconst_2 (pc := 593) dL_gains_593 ?_
      refine n_iconst_5 (pc := 594) dL_gains_594 ?_
      refine n_iconst_0 (pc := 595) dL_gains_595 ?_
      refine n_iconst_0 (pc := 596) dL_gains_596 ?_
      refine r_call5 (pc := 597) rfl rfl dL_gains_597 (b_ask0 hT (wBk_ok hO) (by decide) q_ab5) (by decide) (Nat.le_of_ble_eq_true rfl) ⟨by decide, by decide⟩ (fun M9 h9 => ?_)
      obtain ⟨hT, hY⟩ := h9
      have hX : ∀ i, 328 ≤ i → M9 i = M i := fun i hi => (hY i hi).trans (hX i hi)
      clear hY
      refine r_iload7 (pc := 600) dL_gains_600 ?_
      refine r_icmp_ne (pc := 602) 609 (by decide) dL_gains_602 (fun h9 => absurd rfl h9) (fun _ => ?_)
      refine n_iconst_1 (pc := 605) dL_gains_605 ?_
      refine r_goto (pc := 606) 610 (by decide) dL_gains_606 ?_
      exact p_ireturn (pc := 610) false rfl rfl (by decide) dL_gains_610 (by decide) (by decide) (Or.inl rfl) ⟨rfl, wBk w, wBk_ok hO, hT, hX⟩
    · rw [if_neg hfree] at hcc
      refine r_aload0 (pc := 412) dL_gains_412 ?_
      refine n_bipush (pc := 413) 14 (by decide) dL_gains_413 ?_
      refine n_sipush (pc := 415) 20000 (by decide) dL_gains_415 ?_
      refine r_iload11 (pc := 418) dL_gains_418 ?_
      first | refine n_iadd (pc := 420) dL_gains_420 ?_ | refine z_iadd (pc := 420) dL_gains_420 ?_ | refine r_iadd (pc := 420) dL_gains_420 ?_
      refine n_iconst_0 (pc := 421) dL_gains_421 ?_
      refine n_iconst_0 (pc := 422) dL_gains_422 ?_
      refine r_call5 (pc := 423) rfl rfl dL_gains_423 (b_ask0 hT hO (by decide) (q_gainF (by omega) hb hp)) (by decide) (Nat.le_of_ble_eq_true rfl) ⟨by decide, by decide⟩ (fun M9 h9 => ?_)
      obtain ⟨hT, hY⟩ := h9
      have hX : ∀ i, 328 ≤ i → M9 i = M i := fun i hi => (hY i hi).trans (hX i hi)
      clear hY
      refine r_istore8 (pc := 426) dL_gains_426 rfl ?_
      refine r_aload0 (pc := 428) dL_gains_428 ?_
      refine n_bipush (pc := 429) 11 (by decide) dL_gains_429 ?_
      refine r_iload11 (pc := 431) dL_gains_431 ?_
      refine r_iload4 (pc := 433) dL_gains_433 ?_
      refine n_irem (pc := 435) dL_gains_435 (by omega) (by omega) (by omega) ?_
      refine r_iload11 (pc := 436) dL_gains_436 ?_
      refine r_iload4 (pc := 438) dL_gains_438 ?_
      refine n_idiv (pc := 440) dL_gains_440 (by omega) (by omega) (by omega) ?_
      refine n_iconst_0 (pc := 441) dL_gains_441 ?_
      refine r_call5 (pc := 442) rfl rfl dL_gains_442 (b_ask0 hT hO (by decide) (x_flips hO hs hcc)) (by decide) (Nat.le_of_ble_eq_true rfl) ⟨by decide, by decide⟩ (fun M9 h9 => ?_)
      obtain ⟨hT, hY⟩ := h9
      have hX : ∀ i, 328 ≤ i → M9 i = M i := fun i hi => (hY i hi).trans (hX i hi)
      clear hY
      refine r_istore9 (pc := 445) dL_gains_445 rfl ?_
      refine r_iload10 (pc := 447) dL_gains_447 ?_
      refine n_if_eq (pc := 449) 492 (by decide) dL_gains_449 (by omega) (fun hc449 => absurd hc449 (by omega)) (fun hc449 => ?_)
      refine r_aload1 (pc := 452) dL_gains_452 ?_
      refine n_bipush (pc := 453) 11 (by decide) dL_gains_453 ?_
      refine r_iload11 (pc := 455) dL_gains_455 ?_
      refine r_iload4 (pc := 457) dL_gains_457 ?_
      refine n_irem (pc := 459) dL_gains_459 (by omega) (by omega) (by omega) ?_
      refine r_iload11 (pc := 460) dL_gains_460 ?_
      refine r_iload4 (pc := 462) dL_gains_462 ?_
      refine n_idiv (pc := 464) dL_gains_464 (by omega) (by omega) (by omega) ?_
      refine n_iconst_0 (pc := 465) dL_gains_465 ?_
      refine r_call5 (pc := 466) rfl rfl dL_gains_466 (b_ask1 hT hO (by decide) (x_flips hO hs hcc)) (by decide) (Nat.le_of_ble_eq_true rfl) ⟨by decide, by decide⟩ (fun M9 h9 => ?_)
      obtain ⟨hT, hY⟩ := h9
      have hX : ∀ i, 328 ≤ i → M9 i = M i := fun i hi => (hY i hi).trans (hX i hi)
      clear hY
      refine r_iload9 (pc := 469) dL_gains_469 ?_
      refine r_icmp_ne (pc := 471) 492 (by decide) dL_gains_471 (fun h9 => absurd rfl h9) (fun _ => ?_)
      refine r_iload8 (pc := 474) dL_gains_474 ?_
      refine r_ldc (v := -9999002) (pc := 476) (tG 410 (by decide +kernel) (by decide +kernel)) dL_gains_476 ?_
      refine r_icmp_ne (pc := 478) 488 (by decide) dL_gains_478 (fun _ => ?_) (fun h9 => absurd h9 (iI_neA (by omega) (by omega)))
      refine n_iconst_1 (pc := 488) dL_gains_488 ?_
      refine r_goto (pc := 489) 493 (by decide) dL_gains_489 ?_
      refine r_istore10 (pc := 493) dL_gains_493 rfl ?_
      refine r_iload9 (pc := 495) dL_gains_495 ?_
      refine r_ldc (v := -9999003) (pc := 497) (tG 411 (by decide +kernel) (by decide +kernel)) dL_gains_497 ?_
      refine r_icmp_eq (pc := 499) 587 (by decide) dL_gains_499 (fun _ => ?_) (fun h9 => absurd rfl h9)
      refine r_iload10 (pc := 587) dL_gains_587 ?_
      refine n_if_eq (pc := 589) 609 (by decide) dL_gains_589 (by omega) (fun hc589 => absurd hc589 (by omega)) (fun hc589 => ?_)
      refine r_aload0 (pc := 592) dL_gains_592 ?_
      refine n_iconst_2 (pc := 593) dL_gains_593 ?_
      refine n_iconst_5 (pc := 594) dL_gains_594 ?_
      refine n_iconst_0 (pc := 595) dL_gains_595 ?_
      refine n_iconst_0 (pc := 596) dL_gains_596 ?_
      refine r_call5 (pc := 597) rfl rfl dL_gains_597 (b_ask0 hT hO (by decide) q_ab5) (by decide) (Nat.le_of_ble_eq_true rfl) ⟨by decide, by decide⟩ (fun M9 h9 => ?_)
      obtain ⟨hT, hY⟩ := h9
      have hX : ∀ i, 328 ≤ i → M9 i = M i := fun i hi => (hY i hi).trans (hX i hi)
      clear hY
      refine r_iload7 (pc := 600) dL_gains_600 ?_
      refine r_icmp_ne (pc := 602) 609 (by decide) dL_gains_602 (fun h9 => absurd rfl h9) (fun _ => ?_)
      refine n_iconst_1 (pc := 605) dL_gains_605 ?_
      refine r_goto (pc := 606) 610 (by decide) dL_gains_606 ?_
      exact p_ireturn (pc := 610) false rfl rfl (by decide) dL_gains_610 (by decide) (by decide) (Or.inl rfl) ⟨rfl, w, hO, hT, hX⟩
set_option maxRecDepth 20000 in
theorem s_gains2 (hT : TW M1 (W2 w w)) (hO : WOK w) (hX : ∀ i, 328 ≤ i → M1 i = M i) {X k l : Nat} (hX0 : X < 2147483648) (hk : k < zt (wz w)) (hl : l < zt (wz w)) {a8 a9 a11 : Option Value} : G mL_gains 11 (.inl false) 30 180 (tE M) none 11 66 209 [some (.ref 0), some (.ref 164), some (.int (nI X)), some (.int (nI (zt (wz w)))), some (.int (nI (zc (wz w)))), some (.int (nI k)), some (.int (nI l)), some (.int (iI (erAll (wz w)))), a8, a9, some (.int (nI 1)), a11] [] M1 := by
  have hZ := hO.z
  have hd := hZ.dims
  have hz0 := hZ.erAllN (zt (wz w)) (Nat.le_refl _)
  by_cases hkl : k < l
  · have hne : l ≠ k := by omega
    have sb := sg_b hZ hk hl
    by_cases hfree : zH (wz w) l = 0 ∧ zH (wz w) k = 0
    · have hok := swapZ_ok hZ hl hk
      have hOt : WOK (wAct w (swapZ (wz w) l k)) := hO.act ⟨hok, swapZ_tok hO.t hl hk⟩
      have hgain := swap_gain (z := (wz w)) hl hk hne
      rw [sg_sym] at hgain
      obtain ⟨c1, c2, c3⟩ := swap_back (z := (wz w)) hne
      have d1 := tg_b hok (k := k) hk
      have d2 := tg_b hok (k := l) hl
      have d3 := sg_b hok (j := k) (k := l) hk hl
      have hsw : cA 10 (nI l) (nI k) (nI 0) w = (iI (sgZ (wz w) k l), wAct w (swapZ (wz w) l k)) := by rw [do_swap hO hl hk hne hfree, sg_sym]
      have hab : cA 2 (nI 5) (nI 0) (nI 0) (wAct w (swapZ (wz w) l k)) = (iI (erAll (wz w) - sgZ (wz w) k l), wAct w (swapZ (wz w) l k)) := by
        rw [q_ab5]
        show (iI (erAll (swapZ (wz w) l k)), _) = _
        rw [show erAll (swapZ (wz w) l k) = erAll (wz w) - sgZ (wz w) k l by omega]
      have hgk : cA 14 (nI k) (nI 0) (nI 0) (wAct w (swapZ (wz w) l k)) = (iI (tgZ (swapZ (wz w) l k) k), wAct w (swapZ (wz w) l k)) := q_gainT hOt hk
      have hgl : cA 14 (nI l) (nI 0) (nI 0) (wAct w (swapZ (wz w) l k)) = (iI (tgZ (swapZ (wz w) l k) l), wAct w (swapZ (wz w) l k)) := q_gainT hOt hl
      have hgs : cA 14 (nI (10000 + 100 * k + l)) (nI 0) (nI 0) (wAct w (swapZ (wz w) l k)) = (iI (sgZ (swapZ (wz w) l k) k l), wAct w (swapZ (wz w) l k)) := q_gainS hOt hkl hl
      refine r_iload5 (pc := 209) dL_gains_209 ?_
      refine r_iload6 (pc := 211) dL_gains_211 ?_
      refine n_icmp_ge (pc := 213) 403 (by decide) dL_gains_213 (by omega) (by omega) (fun hc213 => absurd hc213 (by omega)) (fun hc213 => ?_)
      refine r_iload10 (pc := 216) dL_gains_216 ?_
      refine n_if_eq (pc := 218) 403 (by decide) dL_gains_218 (by omega) (fun hc218 => absurd hc218 (by omega)) (fun hc218 => ?_)
      refine r_aload0 (pc := 221) dL_gains_221 ?_
      refine n_bipush (pc := 222) 14 (by decide) dL_gains_222 ?_
      refine n_sipush (pc := 224) 10000 (by decide) dL_gains_224 ?_
      refine n_bipush (pc := 227) 100 (by decide) dL_gains_227 ?_
      refine r_iload5 (pc := 229) dL_gains_229 ?_
      first | refine n_imul (pc := 231) dL_gains_231 ?_ | refine z_imul (pc := 231) dL_gains_231 ?_ | refine r_imul (pc := 231) dL_gains_231 ?_
      first | refine n_iadd (pc := 232) dL_gains_232 ?_ | refine z_iadd (pc := 232) dL_gains_232 ?_ | refine r_iadd (pc := 232) dL_gains_232 ?_
      refine r_iload6 (pc := 233) dL_gains_233 ?_
      first | refine n_iadd (pc := 235) dL_gains_235 ?_ | refine z_iadd (pc := 235) dL_gains_235 ?_ | refine r_iadd (pc := 235) dL_gains_235 ?_
      refine n_iconst_0 (pc := 236) dL_gains_236 ?_
      refine n_iconst_0 (pc := 237) dL_gains_237 ?_
      refine r_call5 (pc := 238) rfl rfl dL_gains_238 (b_ask0 hT hO (by decide) (q_gainS hO hkl hl)) (by decide) (Nat.le_of_ble_eq_true rfl) ⟨by decide, by decide⟩ (fun M9 h9 => ?_)
      obtain ⟨hT, hY⟩ := h9
      have hX : ∀ i, 328 ≤ i → M9 i = M i := fun i hi => (hY i hi).trans (hX i hi)
      clear hY
      refine r_istore8 (pc := 241) dL_gains_241 rfl ?_
      refine r_aload0 (pc := 243) dL_gains_243 ?_
      refine n_bipush (pc := 244) 10 (by decide) dL_gains_244 ?_
      refine r_iload6 (pc := 246) dL_gains_246 ?_
      refine r_iload5 (pc := 248) dL_gains_248 ?_
      refine n_iconst_0 (pc := 250) dL_gains_250 ?_
      refine r_call5 (pc := 251) rfl rfl dL_gains_251 (s_do0 hT hO (by decide) hsw) (by decide) (Nat.le_of_ble_eq_true rfl) ⟨by decide, by decide⟩ (fun M9 h9 => ?_)
      obtain ⟨hT, hY⟩ := h9
      have hX : ∀ i, 328 ≤ i → M9 i = M i := fun i hi => (hY i hi).trans (hX i hi)
      clear hY
      refine r_istore9 (pc := 254) dL_gains_254 rfl ?_
      refine r_aload1 (pc := 256) dL_gains_256 ?_
      refine n_bipush (pc := 257) 10 (by decide) dL_gains_257 ?_
      refine r_iload6 (pc := 259) dL_gains_259 ?_
      refine r_iload5 (pc := 261) dL_gains_261 ?_
      refine n_iconst_0 (pc := 263) dL_gains_263 ?_
      refine r_call5 (pc := 264) rfl rfl dL_gains_264 (s_do1 hT hO (by decide) hsw) (by decide) (Nat.le_of_ble_eq_true rfl) ⟨by decide, by decide⟩ (fun M9 h9 => ?_)
      obtain ⟨hT, hY⟩ := h9
      have hX : ∀ i, 328 ≤ i → M9 i = M i := fun i hi => (hY i hi).trans (hX i hi)
      clear hY
      refine r_iload9 (pc := 267) dL_gains_267 ?_
      refine r_icmp_ne (pc := 269) 276 (by decide) dL_gains_269 (fun h9 => absurd rfl h9) (fun _ => ?_)
      refine n_iconst_1 (pc := 272) dL_gains_272 ?_
      refine r_goto (pc := 273) 277 (by decide) dL_gains_273 ?_
      refine r_istore10 (pc := 277) dL_gains_277 rfl ?_
      refine r_iload9 (pc := 279) dL_gains_279 ?_
      refine r_ldc (v := -9999003) (pc := 281) (tG 411 (by decide +kernel) (by decide +kernel)) dL_gains_281 ?_
      refine r_icmp_eq (pc := 283) 403 (by decide) dL_gains_283 (fun h9 => absurd h9 (iI_neS (by omega) (by omega))) (fun _ => ?_)
      refine r_iload10 (pc := 286) dL_gains_286 ?_
      refine n_if_eq (pc := 288) 400 (by decide) dL_gains_288 (by omega) (fun hc288 => absurd hc288 (by omega)) (fun hc288 => ?_)
      refine r_iload9 (pc := 291) dL_gains_291 ?_
      refine r_iload8 (pc := 293) dL_gains_293 ?_
      refine r_icmp_ne (pc := 295) 400 (by decide) dL_gains_295 (fun h9 => absurd rfl h9) (fun _ => ?_)
      refine r_aload0 (pc := 298) dL_gains_298 ?_
      refine n_iconst_2 (pc := 299) dL_gains_299 ?_
      refine n_iconst_5 (pc := 300) dL_gains_300 ?_
      refine n_iconst_0 (pc := 301) dL_gains_301 ?_
      refine n_iconst_0 (pc := 302) dL_gains_302 ?_
      refine r_call5 (pc := 303) rfl rfl dL_gains_303 (b_ask0 hT hOt (by decide) hab) (by decide) (Nat.le_of_ble_eq_true rfl) ⟨by decide, by decide⟩ (fun M9 h9 => ?_)
      obtain ⟨hT, hY⟩ := h9
      have hX : ∀ i, 328 ≤ i → M9 i = M i := fun i hi => (hY i hi).trans (hX i hi)
      clear hY
      refine r_iload7 (pc := 306) dL_gains_306 ?_
      refine r_iload8 (pc := 308) dL_gains_308 ?_
      first | refine n_isubI (pc := 310) dL_gains_310 ?_ | refine z_isub (pc := 310) dL_gains_310 ?_ | refine r_isub (pc := 310) dL_gains_310 ?_
      refine r_icmp_ne (pc := 311) 400 (by decide) dL_gains_311 (fun h9 => absurd rfl h9) (fun _ => ?_)
      refine r_aload0 (pc := 314) dL_gains_314 ?_
      refine n_bipush (pc := 315) 14 (by decide) dL_gains_315 ?_
      refine r_iload5 (pc := 317) dL_gains_317 ?_
      refine n_iconst_0 (pc := 319) dL_gains_319 ?_
      refine n_iconst_0 (pc := 320) dL_gains_320 ?_
      refine r_call5 (pc := 321) rfl rfl dL_gains_321 (b_ask0 hT hOt (by decide) hgk) (by decide) (Nat.le_of_ble_eq_true rfl) ⟨by decide, by decide⟩ (fun M9 h9 => ?_)
      obtain ⟨hT, hY⟩ := h9
      have hX : ∀ i, 328 ≤ i → M9 i = M i := fun i hi => (hY i hi).trans (hX i hi)
      clear hY
      refine z_if_gt (pc := 324) 400 (by decide) dL_gains_324 (by omega) (by omega) (fun hc324 => absurd hc324 (by omega)) (fun hc324 => ?_)
      refine r_aload0 (pc := 327) dL_gains_327 ?_
      refine n_bipush (pc := 328) 14 (by decide) dL_gains_328 ?_
      refine r_iload6 (pc := 330) dL_gains_330 ?_
      refine n_iconst_0 (pc := 332) dL_gains_332 ?_
      refine n_iconst_0 (pc := 333) dL_gains_333 ?_
      refine r_call5 (pc := 334) rfl rfl dL_gains_334 (b_ask0 hT hOt (by decide) hgl) (by decide) (Nat.le_of_ble_eq_true rfl) ⟨by decide, by decide⟩ (fun M9 h9 => ?_)
      obtain ⟨hT, hY⟩ := h9
      have hX : ∀ i, 328 ≤ i → M9 i = M i := fun i hi => (hY i hi).trans (hX i hi)
      clear hY
      refine z_if_gt (pc := 337) 400 (by decide) dL_gains_337 (by omega) (by omega) (fun hc337 => absurd hc337 (by omega)) (fun hc337 => ?_)
      refine r_aload0 (pc := 340) dL_gains_340 ?_
      refine n_bipush (pc := 341) 14 (by decide) dL_gains_341 ?_
      refine n_sipush (pc := 343) 10000 (by decide) dL_gains_343 ?_
      refine n_bipush (pc := 346) 100 (by decide) dL_gains_346 ?_
      refine r_iload5 (pc := 348) dL_gains_348 ?_
      first | refine n_imul (pc := 350) dL_gains_350 ?_ | refine z_imul (pc := 350) dL_gains_350 ?_ | refine r_imul (pc := 350) dL_gains_350 ?_
      first | refine n_iadd (pc := 351) dL_gains_351 ?_ | refine z_iadd (pc := 351) dL_gains_351 ?_ | refine r_iadd (pc := 351) dL_gains_351 ?_
      refine r_iload6 (pc := 352) dL_gains_352 ?_
      first | refine n_iadd (pc := 354) dL_gains_354 ?_ | refine z_iadd (pc := 354) dL_gains_354 ?_ | refine r_iadd (pc := 354) dL_gains_354 ?_
      refine n_iconst_0 (pc := 355) dL_gains_355 ?_
      refine n_iconst_0 (pc := 356) dL_gains_356 ?_
      refine r_call5 (pc := 357) rfl rfl dL_gains_357 (b_ask0 hT hOt (by decide) hgs) (by decide) (Nat.le_of_ble_eq_true rfl) ⟨by decide, by decide⟩ (fun M9 h9 => ?_)
      obtain ⟨hT, hY⟩ := h9
      have hX : ∀ i, 328 ≤ i → M9 i = M i := fun i hi => (hY i hi).trans (hX i hi)
      clear hY
      refine r_iload8 (pc := 360) dL_gains_360 ?_
      first | refine z_ineg (pc := 362) dL_gains_362 ?_ | refine r_ineg (pc := 362) dL_gains_362 ?_
      refine z_icmp_lt (pc := 363) 400 (by decide) dL_gains_363 (by omega) (by omega) (by omega) (by omega) (fun hc363 => absurd hc363 (by omega)) (fun hc363 => ?_)
      refine r_aload0 (pc := 366) dL_gains_366 ?_
      refine n_bipush (pc := 367) 13 (by decide) dL_gains_367 ?_
      refine n_iconst_0 (pc := 369) dL_gains_369 ?_
      refine n_iconst_0 (pc := 370) dL_gains_370 ?_
      refine n_iconst_0 (pc := 371) dL_gains_371 ?_
      refine r_call5 (pc := 372) rfl rfl dL_gains_372 (s_do0 hT hOt (by decide) (do_undo hO _)) (by decide) (Nat.le_of_ble_eq_true rfl) ⟨by decide, by decide⟩ (fun M9 h9 => ?_)
      obtain ⟨hT, hY⟩ := h9
      have hX : ∀ i, 328 ≤ i → M9 i = M i := fun i hi => (hY i hi).trans (hX i hi)
      clear hY
      refine r_callS1i (pc := 375) lk_L_221 dL_gains_375 (s_thrU hO) (by decide) (Nat.le_of_ble_eq_true rfl) ⟨by decide, by decide⟩ ?_
      refine n_if_ne (pc := 378) 400 (by decide) dL_gains_378 (by omega) (fun hc378 => absurd hc378 (by omega)) (fun hc378 => ?_)
      refine r_aload1 (pc := 381) dL_gains_381 ?_
      refine n_bipush (pc := 382) 13 (by decide) dL_gains_382 ?_
      refine n_iconst_0 (pc := 384) dL_gains_384 ?_
      refine n_iconst_0 (pc := 385) dL_gains_385 ?_
      refine n_iconst_0 (pc := 386) dL_gains_386 ?_
      refine r_call5 (pc := 387) rfl rfl dL_gains_387 (s_do1 hT hOt (by decide) (do_undo hO _)) (by decide) (Nat.le_of_ble_eq_true rfl) ⟨by decide, by decide⟩ (fun M9 h9 => ?_)
      obtain ⟨hT, hY⟩ := h9
      have hX : ∀ i, 328 ≤ i → M9 i = M i := fun i hi => (hY i hi).trans (hX i hi)
      clear hY
      refine r_callS1i (pc := 390) lk_L_221 dL_gains_390 (s_thrU hO) (by decide) (Nat.le_of_ble_eq_true rfl) ⟨by decide, by decide⟩ ?_
      refine n_if_ne (pc := 393) 400 (by decide) dL_gains_393 (by omega) (fun hc393 => absurd hc393 (by omega)) (fun hc393 => ?_)
      refine n_iconst_1 (pc := 396) dL_gains_396 ?_
      refine r_goto (pc := 397) 401 (by decide) dL_gains_397 ?_
      refine r_istore10 (pc := 401) dL_gains_401 rfl ?_
      refine G_widen rfl (show _ ≤ 20 by decide) (show _ ≤ 120 by decide) ?_
      exact s_gains3 (w := wBk w) hT (wBk_ok hO) hX hX0
    · have hsw : cA 10 (nI l) (nI k) (nI 0) w = (cST, w) := x_swapS hO hl hk hne hfree
      refine r_iload5 (pc := 209) dL_gains_209 ?_
      refine r_iload6 (pc := 211) dL_gains_211 ?_
      refine n_icmp_ge (pc := 213) 403 (by decide) dL_gains_213 (by omega) (by omega) (fun hc213 => absurd hc213 (by omega)) (fun hc213 => ?_)
      refine r_iload10 (pc := 216) dL_gains_216 ?_
      refine n_if_eq (pc := 218) 403 (by decide) dL_gains_218 (by omega) (fun hc218 => absurd hc218 (by omega)) (fun hc218 => ?_)
      refine r_aload0 (pc := 221) dL_gains_221 ?_
      refine n_bipush (pc := 222) 14 (by decide) dL_gains_222 ?_
      refine n_sipush (pc := 224) 10000 (by decide) dL_gains_224 ?_
      refine n_bipush (pc := 227) 100 (by decide) dL_gains_227 ?_
      refine r_iload5 (pc := 229) dL_gains_229 ?_
      first | refine n_imul (pc := 231) dL_gains_231 ?_ | refine z_imul (pc := 231) dL_gains_231 ?_ | refine r_imul (pc := 231) dL_gains_231 ?_
      first | refine n_iadd (pc := 232) dL_gains_232 ?_ | refine z_iadd (pc := 232) dL_gains_232 ?_ | refine r_iadd (pc := 232) dL_gains_232 ?_
      refine r_iload6 (pc := 233) dL_gains_233 ?_
      first | refine n_iadd (pc := 235) dL_gains_235 ?_ | refine z_iadd (pc := 235) dL_gains_235 ?_ | refine r_iadd (pc := 235) dL_gains_235 ?_
      refine n_iconst_0 (pc := 236) dL_gains_236 ?_
      refine n_iconst_0 (pc := 237) dL_gains_237 ?_
      refine r_call5 (pc := 238) rfl rfl dL_gains_238 (b_ask0 hT hO (by decide) (q_gainS hO hkl hl)) (by decide) (Nat.le_of_ble_eq_true rfl) ⟨by decide, by decide⟩ (fun M9 h9 => ?_)
      obtain ⟨hT, hY⟩ := h9
      have hX : ∀ i, 328 ≤ i → M9 i = M i := fun i hi => (hY i hi).trans (hX i hi)
      clear hY
      refine r_istore8 (pc := 241) dL_gains_241 rfl ?_
      refine r_aload0 (pc := 243) dL_gains_243 ?_
      refine n_bipush (pc := 244) 10 (by decide) dL_gains_244 ?_
      refine r_iload6 (pc := 246) dL_gains_246 ?_
      refine r_iload5 (pc := 248) dL_gains_248 ?_
      refine n_iconst_0 (pc := 250) dL_gains_250 ?_
      refine r_call5 (pc := 251) rfl rfl dL_gains_251 (b_ask0 hT hO (by decide) hsw) (by decide) (Nat.le_of_ble_eq_true rfl) ⟨by decide, by decide⟩ (fun M9 h9 => ?_)
      obtain ⟨hT, hY⟩ := h9
      have hX : ∀ i, 328 ≤ i → M9 i = M i := fun i hi => (hY i hi).trans (hX i hi)
      clear hY
      refine r_istore9 (pc := 254) dL_gains_254 rfl ?_
      refine r_aload1 (pc := 256) dL_gains_256 ?_
      refine n_bipush (pc := 257) 10 (by decide) dL_gains_257 ?_
      refine r_iload6 (pc := 259) dL_gains_259 ?_
      refine r_iload5 (pc := 261) dL_gains_261 ?_
      refine n_iconst_0 (pc := 263) dL_gains_263 ?_
      refine r_call5 (pc := 264) rfl rfl dL_gains_264 (b_ask1 hT hO (by decide) hsw) (by decide) (Nat.le_of_ble_eq_true rfl) ⟨by decide, by decide⟩ (fun M9 h9 => ?_)
      obtain ⟨hT, hY⟩ := h9
      have hX : ∀ i, 328 ≤ i → M9 i = M i := fun i hi => (hY i hi).trans (hX i hi)
      clear hY
      refine r_iload9 (pc := 267) dL_gains_267 ?_
      refine r_icmp_ne (pc := 269) 276 (by decide) dL_gains_269 (fun h9 => absurd rfl h9) (fun _ => ?_)
      refine n_iconst_1 (pc := 272) dL_gains_272 ?_
      refine r_goto (pc := 273) 277 (by decide) dL_gains_273 ?_
      refine r_istore10 (pc := 277) dL_gains_277 rfl ?_
      refine r_iload9 (pc := 279) dL_gains_279 ?_
      refine r_ldc (v := -9999003) (pc := 281) (tG 411 (by decide +kernel) (by decide +kernel)) dL_gains_281 ?_
      refine r_icmp_eq (pc := 283) 403 (by decide) dL_gains_283 (fun _ => ?_) (fun h9 => absurd rfl h9)
      refine G_widen rfl (show _ ≤ 20 by decide) (show _ ≤ 120 by decide) ?_
      exact s_gains3 hT hO hX hX0
  · refine r_iload5 (pc := 209) dL_gains_209 ?_
    refine r_iload6 (pc := 211) dL_gains_211 ?_
    refine n_icmp_ge (pc := 213) 403 (by decide) dL_gains_213 (by omega) (by omega) (fun hc213 => ?_) (fun hc213 => absurd hc213 (by omega))
    refine G_widen rfl (show _ ≤ 20 by decide) (show _ ≤ 120 by decide) ?_
    exact s_gains3 hT hO hX hX0
set_option maxRecDepth 20000 in
theorem s_gains (hT : TW M (W2 w w)) (hO : WOK w) {X : Nat} (hX0 : X < 2147483648) : SpecP mL_gains 11 30 180 [.ref 0, .ref 164, .int (nI X)] M (tE M) := by
  have hZ := hO.z
  have hd := hZ.dims
  have hz0 := hZ.erAllN (zt (wz w)) (Nat.le_refl _)
  have hX : ∀ i, 328 ≤ i → M i = M i := fun _ _ => rfl
  have hk : X % zt (wz w) < zt (wz w) := Nat.mod_lt _ (by omega)
  have hl : X / 64 % zt (wz w) < zt (wz w) := Nat.mod_lt _ (by omega)
  refine Spec_of [some (.ref 0), some (.ref 164), some (.int (nI X)), none, none, none, none, none, none, none, none, none] (by decide) (Nat.le_of_ble_eq_true rfl) rfl ?_
  refine r_aload0 (pc := 0) dL_gains_0 ?_
  refine n_iconst_2 (pc := 1) dL_gains_1 ?_
  refine n_iconst_4 (pc := 2) dL_gains_2 ?_
  refine n_iconst_0 (pc := 3) dL_gains_3 ?_
  refine n_iconst_0 (pc := 4) dL_gains_4 ?_
  refine r_call5 (pc := 5) rfl rfl dL_gains_5 (b_ask0 hT hO (by decide) q_ab4) (by decide) (Nat.le_of_ble_eq_true rfl) ⟨by decide, by decide⟩ (fun M9 h9 => ?_)
  obtain ⟨hT, hY⟩ := h9
  have hX : ∀ i, 328 ≤ i → M9 i = M i := fun i hi => (hY i hi).trans (hX i hi)
  clear hY
  refine r_istore3 (pc := 8) dL_gains_8 rfl ?_
  refine r_aload0 (pc := 9) dL_gains_9 ?_
  refine n_iconst_2 (pc := 10) dL_gains_10 ?_
  refine n_iconst_2 (pc := 11) dL_gains_11 ?_
  refine n_iconst_0 (pc := 12) dL_gains_12 ?_
  refine n_iconst_0 (pc := 13) dL_gains_13 ?_
  refine r_call5 (pc := 14) rfl rfl dL_gains_14 (b_ask0 hT hO (by decide) q_ab2) (by decide) (Nat.le_of_ble_eq_true rfl) ⟨by decide, by decide⟩ (fun M9 h9 => ?_)
  obtain ⟨hT, hY⟩ := h9
  have hX : ∀ i, 328 ≤ i → M9 i = M i := fun i hi => (hY i hi).trans (hX i hi)
  clear hY
  refine r_istore4 (pc := 17) dL_gains_17 rfl ?_
  refine r_iload2 (pc := 19) dL_gains_19 ?_
  refine r_iload3 (pc := 20) dL_gains_20 ?_
  refine n_irem (pc := 21) dL_gains_21 (by omega) (by omega) (by omega) ?_
  refine r_istore5 (pc := 22) dL_gains_22 rfl ?_
  refine r_iload2 (pc := 24) dL_gains_24 ?_
  refine n_bipush (pc := 25) 64 (by decide) dL_gains_25 ?_
  refine n_idiv (pc := 27) dL_gains_27 (by omega) (by omega) (by omega) ?_
  refine r_iload3 (pc := 28) dL_gains_28 ?_
  refine n_irem (pc := 29) dL_gains_29 (by omega) (by omega) (by omega) ?_
  refine r_istore6 (pc := 30) dL_gains_30 rfl ?_
  generalize X % zt (wz w) = k at hk ⊢
  generalize X / 64 % zt (wz w) = l at hl ⊢
  have tb := tg_b hZ hk
  by_cases h0 : zH (wz w) k = 0
  · have hok := turnZ_ok hZ k
    have hOt : WOK (wAct w (turnZ (wz w) k)) := hO.act ⟨hok, hO.t⟩
    have hgain := turn_gain (z := (wz w)) hk
    have hpl : cA 4 (nI k) (nI 5) (nI 0) (wAct w (turnZ (wz w) k)) = (nI 0, wAct w (turnZ (wz w) k)) := by
      have e : cA 4 (nI k) (nI 5) (nI 0) (wAct w (turnZ (wz w) k)) = (nI (zH (wz w) k), wAct w (turnZ (wz w) k)) := q_pl5 hOt hk
      rw [e, h0]
    have hab : cA 2 (nI 5) (nI 0) (nI 0) (wAct w (turnZ (wz w) k)) = (iI (erAll (wz w) - tgZ (wz w) k), wAct w (turnZ (wz w) k)) := by
      rw [q_ab5]
      show (iI (erAll (turnZ (wz w) k)), _) = _
      rw [show erAll (turnZ (wz w) k) = erAll (wz w) - tgZ (wz w) k by omega]
    have hg : cA 14 (nI k) (nI 0) (nI 0) (wAct w (turnZ (wz w) k)) = (iI (-tgZ (wz w) k), wAct w (turnZ (wz w) k)) := by
      have e : cA 14 (nI k) (nI 0) (nI 0) (wAct w (turnZ (wz w) k)) = (iI (tgZ (turnZ (wz w) k) k), wAct w (turnZ (wz w) k)) := q_gainT hOt hk
      rw [e, turn_back (hZ.u hk)]
    refine r_aload0 (pc := 32) dL_gains_32 ?_
    refine n_iconst_2 (pc := 33) dL_gains_33 ?_
    refine n_iconst_5 (pc := 34) dL_gains_34 ?_
    refine n_iconst_0 (pc := 35) dL_gains_35 ?_
    refine n_iconst_0 (pc := 36) dL_gains_36 ?_
    refine r_call5 (pc := 37) rfl rfl dL_gains_37 (b_ask0 hT hO (by decide) q_ab5) (by decide) (Nat.le_of_ble_eq_true rfl) ⟨by decide, by decide⟩ (fun M9 h9 => ?_)
    obtain ⟨hT, hY⟩ := h9
    have hX : ∀ i, 328 ≤ i → M9 i = M i := fun i hi => (hY i hi).trans (hX i hi)
    clear hY
    refine r_istore7 (pc := 40) dL_gains_40 rfl ?_
    refine r_aload0 (pc := 42) dL_gains_42 ?_
    refine n_bipush (pc := 43) 14 (by decide) dL_gains_43 ?_
    refine r_iload5 (pc := 45) dL_gains_45 ?_
    refine n_iconst_0 (pc := 47) dL_gains_47 ?_
    refine n_iconst_0 (pc := 48) dL_gains_48 ?_
    refine r_call5 (pc := 49) rfl rfl dL_gains_49 (b_ask0 hT hO (by decide) (q_gainT hO hk)) (by decide) (Nat.le_of_ble_eq_true rfl) ⟨by decide, by decide⟩ (fun M9 h9 => ?_)
    obtain ⟨hT, hY⟩ := h9
    have hX : ∀ i, 328 ≤ i → M9 i = M i := fun i hi => (hY i hi).trans (hX i hi)
    clear hY
    refine r_istore8 (pc := 52) dL_gains_52 rfl ?_
    refine r_aload0 (pc := 54) dL_gains_54 ?_
    refine n_bipush (pc := 55) 9 (by decide) dL_gains_55 ?_
    refine r_iload5 (pc := 57) dL_gains_57 ?_
    refine n_iconst_0 (pc := 59) dL_gains_59 ?_
    refine n_iconst_0 (pc := 60) dL_gains_60 ?_
    refine r_call5 (pc := 61) rfl rfl dL_gains_61 (s_do0 hT hO (by decide) (do_turn hO hk h0)) (by decide) (Nat.le_of_ble_eq_true rfl) ⟨by decide, by decide⟩ (fun M9 h9 => ?_)
    obtain ⟨hT, hY⟩ := h9
    have hX : ∀ i, 328 ≤ i → M9 i = M i := fun i hi => (hY i hi).trans (hX i hi)
    clear hY
    refine r_istore9 (pc := 64) dL_gains_64 rfl ?_
    refine r_aload1 (pc := 66) dL_gains_66 ?_
    refine n_bipush (pc := 67) 9 (by decide) dL_gains_67 ?_
    refine r_iload5 (pc := 69) dL_gains_69 ?_
    refine n_iconst_0 (pc := 71) dL_gains_71 ?_
    refine n_iconst_0 (pc := 72) dL_gains_72 ?_
    refine r_call5 (pc := 73) rfl rfl dL_gains_73 (s_do1 hT hO (by decide) (do_turn hO hk h0)) (by decide) (Nat.le_of_ble_eq_true rfl) ⟨by decide, by decide⟩ (fun M9 h9 => ?_)
    obtain ⟨hT, hY⟩ := h9
    have hX : ∀ i, 328 ≤ i → M9 i = M i := fun i hi => (hY i hi).trans (hX i hi)
    clear hY
    refine r_iload9 (pc := 76) dL_gains_76 ?_
    refine r_icmp_ne (pc := 78) 118 (by decide) dL_gains_78 (fun h9 => absurd rfl h9) (fun _ => ?_)
    refine r_iload9 (pc := 81) dL_gains_81 ?_
    refine r_ldc (v := -9999003) (pc := 83) (tG 411 (by decide +kernel) (by decide +kernel)) dL_gains_83 ?_
    refine r_icmp_ne (pc := 85) 92 (by decide) dL_gains_85 (fun _ => ?_) (fun h9 => absurd h9 (iI_neS (by omega) (by omega)))
    refine n_iconst_0 (pc := 92) dL_gains_92 ?_
    refine r_aload0 (pc := 93) dL_gains_93 ?_
    refine n_iconst_4 (pc := 94) dL_gains_94 ?_
    refine r_iload5 (pc := 95) dL_gains_95 ?_
    refine n_iconst_5 (pc := 97) dL_gains_97 ?_
    refine n_iconst_0 (pc := 98) dL_gains_98 ?_
    refine r_call5 (pc := 99) rfl rfl dL_gains_99 (b_ask0 hT hOt (by decide) hpl) (by decide) (Nat.le_of_ble_eq_true rfl) ⟨by decide, by decide⟩ (fun M9 h9 => ?_)
    obtain ⟨hT, hY⟩ := h9
    have hX : ∀ i, 328 ≤ i → M9 i = M i := fun i hi => (hY i hi).trans (hX i hi)
    clear hY
    refine n_iconst_1 (pc := 102) dL_gains_102 ?_
    refine n_icmp_ne (pc := 103) 110 (by decide) dL_gains_103 (by omega) (by omega) (fun hc103 => ?_) (fun hc103 => absurd hc103 (by omega))
    refine n_iconst_0 (pc := 110) dL_gains_110 ?_
    refine r_icmp_ne (pc := 111) 118 (by decide) dL_gains_111 (fun h9 => absurd rfl h9) (fun _ => ?_)
    refine n_iconst_1 (pc := 114) dL_gains_114 ?_
    refine r_goto (pc := 115) 119 (by decide) dL_gains_115 ?_
    refine r_istore10 (pc := 119) dL_gains_119 rfl ?_
    refine r_iload9 (pc := 121) dL_gains_121 ?_
    refine r_ldc (v := -9999003) (pc := 123) (tG 411 (by decide +kernel) (by decide +kernel)) dL_gains_123 ?_
    refine r_icmp_eq (pc := 125) 209 (by decide) dL_gains_125 (fun h9 => absurd h9 (iI_neS (by omega) (by omega))) (fun _ => ?_)
    refine r_iload10 (pc := 128) dL_gains_128 ?_
    refine n_if_eq (pc := 130) 206 (by decide) dL_gains_130 (by omega) (fun hc130 => absurd hc130 (by omega)) (fun hc130 => ?_)
    refine r_iload9 (pc := 133) dL_gains_133 ?_
    refine r_iload8 (pc := 135) dL_gains_135 ?_
    refine r_icmp_ne (pc := 137) 206 (by decide) dL_gains_137 (fun h9 => absurd rfl h9) (fun _ => ?_)
    refine r_aload0 (pc := 140) dL_gains_140 ?_
    refine n_iconst_2 (pc := 141) dL_gains_141 ?_
    refine n_iconst_5 (pc := 142) dL_gains_142 ?_
    refine n_iconst_0 (pc := 143) dL_gains_143 ?_
    refine n_iconst_0 (pc := 144) dL_gains_144 ?_
    refine r_call5 (pc := 145) rfl rfl dL_gains_145 (b_ask0 hT hOt (by decide) hab) (by decide) (Nat.le_of_ble_eq_true rfl) ⟨by decide, by decide⟩ (fun M9 h9 => ?_)
    obtain ⟨hT, hY⟩ := h9
    have hX : ∀ i, 328 ≤ i → M9 i = M i := fun i hi => (hY i hi).trans (hX i hi)
    clear hY
    refine r_iload7 (pc := 148) dL_gains_148 ?_
    refine r_iload8 (pc := 150) dL_gains_150 ?_
    first | refine n_isubI (pc := 152) dL_gains_152 ?_ | refine z_isub (pc := 152) dL_gains_152 ?_ | refine r_isub (pc := 152) dL_gains_152 ?_
    refine r_icmp_ne (pc := 153) 206 (by decide) dL_gains_153 (fun h9 => absurd rfl h9) (fun _ => ?_)
    refine r_aload0 (pc := 156) dL_gains_156 ?_
    refine n_bipush (pc := 157) 14 (by decide) dL_gains_157 ?_
    refine r_iload5 (pc := 159) dL_gains_159 ?_
    refine n_iconst_0 (pc := 161) dL_gains_161 ?_
    refine n_iconst_0 (pc := 162) dL_gains_162 ?_
    refine r_call5 (pc := 163) rfl rfl dL_gains_163 (b_ask0 hT hOt (by decide) hg) (by decide) (Nat.le_of_ble_eq_true rfl) ⟨by decide, by decide⟩ (fun M9 h9 => ?_)
    obtain ⟨hT, hY⟩ := h9
    have hX : ∀ i, 328 ≤ i → M9 i = M i := fun i hi => (hY i hi).trans (hX i hi)
    clear hY
    refine r_iload8 (pc := 166) dL_gains_166 ?_
    first | refine z_ineg (pc := 168) dL_gains_168 ?_ | refine r_ineg (pc := 168) dL_gains_168 ?_
    refine r_icmp_ne (pc := 169) 206 (by decide) dL_gains_169 (fun h9 => absurd rfl h9) (fun _ => ?_)
    refine r_aload0 (pc := 172) dL_gains_172 ?_
    refine n_bipush (pc := 173) 13 (by decide) dL_gains_173 ?_
    refine n_iconst_0 (pc := 175) dL_gains_175 ?_
    refine n_iconst_0 (pc := 176) dL_gains_176 ?_
    refine n_iconst_0 (pc := 177) dL_gains_177 ?_
    refine r_call5 (pc := 178) rfl rfl dL_gains_178 (s_do0 hT hOt (by decide) (do_undo hO _)) (by decide) (Nat.le_of_ble_eq_true rfl) ⟨by decide, by decide⟩ (fun M9 h9 => ?_)
    obtain ⟨hT, hY⟩ := h9
    have hX : ∀ i, 328 ≤ i → M9 i = M i := fun i hi => (hY i hi).trans (hX i hi)
    clear hY
    refine r_callS1i (pc := 181) lk_L_221 dL_gains_181 (s_thrU hO) (by decide) (Nat.le_of_ble_eq_true rfl) ⟨by decide, by decide⟩ ?_
    refine n_if_ne (pc := 184) 206 (by decide) dL_gains_184 (by omega) (fun hc184 => absurd hc184 (by omega)) (fun hc184 => ?_)
    refine r_aload1 (pc := 187) dL_gains_187 ?_
    refine n_bipush (pc := 188) 13 (by decide) dL_gains_188 ?_
    refine n_iconst_0 (pc := 190) dL_gains_190 ?_
    refine n_iconst_0 (pc := 191) dL_gains_191 ?_
    refine n_iconst_0 (pc := 192) dL_gains_192 ?_
    refine r_call5 (pc := 193) rfl rfl dL_gains_193 (s_do1 hT hOt (by decide) (do_undo hO _)) (by decide) (Nat.le_of_ble_eq_true rfl) ⟨by decide, by decide⟩ (fun M9 h9 => ?_)
    obtain ⟨hT, hY⟩ := h9
    have hX : ∀ i, 328 ≤ i → M9 i = M i := fun i hi => (hY i hi).trans (hX i hi)
    clear hY
    refine r_callS1i (pc := 196) lk_L_221 dL_gains_196 (s_thrU hO) (by decide) (Nat.le_of_ble_eq_true rfl) ⟨by decide, by decide⟩ ?_
    refine n_if_ne (pc := 199) 206 (by decide) dL_gains_199 (by omega) (fun hc199 => absurd hc199 (by omega)) (fun hc199 => ?_)
    refine n_iconst_1 (pc := 202) dL_gains_202 ?_
    refine r_goto (pc := 203) 207 (by decide) dL_gains_203 ?_
    refine r_istore10 (pc := 207) dL_gains_207 rfl ?_
    refine G_widen rfl (show _ ≤ 11 by decide) (show _ ≤ 66 by decide) ?_
    exact s_gains2 (w := wBk w) hT (wBk_ok hO) hX hX0 hk hl
  · have h1 : zH (wz w) k = 1 := by have := hZ.h hk; omega
    have hpl : cA 4 (nI k) (nI 5) (nI 0) w = (nI 1, w) := by rw [q_pl5 hO hk, h1]
    refine r_aload0 (pc := 32) dL_gains_32 ?_
    refine n_iconst_2 (pc := 33) dL_gains_33 ?_
    refine n_iconst_5 (pc := 34) dL_gains_34 ?_
    refine n_iconst_0 (pc := 35) dL_gains_35 ?_
    refine n_iconst_0 (pc := 36) dL_gains_36 ?_
    refine r_call5 (pc := 37) rfl rfl dL_gains_37 (b_ask0 hT hO (by decide) q_ab5) (by decide) (Nat.le_of_ble_eq_true rfl) ⟨by decide, by decide⟩ (fun M9 h9 => ?_)
    obtain ⟨hT, hY⟩ := h9
    have hX : ∀ i, 328 ≤ i → M9 i = M i := fun i hi => (hY i hi).trans (hX i hi)
    clear hY
    refine r_istore7 (pc := 40) dL_gains_40 rfl ?_
    refine r_aload0 (pc := 42) dL_gains_42 ?_
    refine n_bipush (pc := 43) 14 (by decide) dL_gains_43 ?_
    refine r_iload5 (pc := 45) dL_gains_45 ?_
    refine n_iconst_0 (pc := 47) dL_gains_47 ?_
    refine n_iconst_0 (pc := 48) dL_gains_48 ?_
    refine r_call5 (pc := 49) rfl rfl dL_gains_49 (b_ask0 hT hO (by decide) (q_gainT hO hk)) (by decide) (Nat.le_of_ble_eq_true rfl) ⟨by decide, by decide⟩ (fun M9 h9 => ?_)
    obtain ⟨hT, hY⟩ := h9
    have hX : ∀ i, 328 ≤ i → M9 i = M i := fun i hi => (hY i hi).trans (hX i hi)
    clear hY
    refine r_istore8 (pc := 52) dL_gains_52 rfl ?_
    refine r_aload0 (pc := 54) dL_gains_54 ?_
    refine n_bipush (pc := 55) 9 (by decide) dL_gains_55 ?_
    refine r_iload5 (pc := 57) dL_gains_57 ?_
    refine n_iconst_0 (pc := 59) dL_gains_59 ?_
    refine n_iconst_0 (pc := 60) dL_gains_60 ?_
    refine r_call5 (pc := 61) rfl rfl dL_gains_61 (b_ask0 hT hO (by decide) (x_turnS hO hk h0)) (by decide) (Nat.le_of_ble_eq_true rfl) ⟨by decide, by decide⟩ (fun M9 h9 => ?_)
    obtain ⟨hT, hY⟩ := h9
    have hX : ∀ i, 328 ≤ i → M9 i = M i := fun i hi => (hY i hi).trans (hX i hi)
    clear hY
    refine r_istore9 (pc := 64) dL_gains_64 rfl ?_
    refine r_aload1 (pc := 66) dL_gains_66 ?_
    refine n_bipush (pc := 67) 9 (by decide) dL_gains_67 ?_
    refine r_iload5 (pc := 69) dL_gains_69 ?_
    refine n_iconst_0 (pc := 71) dL_gains_71 ?_
    refine n_iconst_0 (pc := 72) dL_gains_72 ?_
    refine r_call5 (pc := 73) rfl rfl dL_gains_73 (b_ask1 hT hO (by decide) (x_turnS hO hk h0)) (by decide) (Nat.le_of_ble_eq_true rfl) ⟨by decide, by decide⟩ (fun M9 h9 => ?_)
    obtain ⟨hT, hY⟩ := h9
    have hX : ∀ i, 328 ≤ i → M9 i = M i := fun i hi => (hY i hi).trans (hX i hi)
    clear hY
    refine r_iload9 (pc := 76) dL_gains_76 ?_
    refine r_icmp_ne (pc := 78) 118 (by decide) dL_gains_78 (fun h9 => absurd rfl h9) (fun _ => ?_)
    refine r_iload9 (pc := 81) dL_gains_81 ?_
    refine r_ldc (v := -9999003) (pc := 83) (tG 411 (by decide +kernel) (by decide +kernel)) dL_gains_83 ?_
    refine r_icmp_ne (pc := 85) 92 (by decide) dL_gains_85 (fun h9 => absurd rfl h9) (fun _ => ?_)
    refine n_iconst_1 (pc := 88) dL_gains_88 ?_
    refine r_goto (pc := 89) 93 (by decide) dL_gains_89 ?_
    refine r_aload0 (pc := 93) dL_gains_93 ?_
    refine n_iconst_4 (pc := 94) dL_gains_94 ?_
    refine r_iload5 (pc := 95) dL_gains_95 ?_
    refine n_iconst_5 (pc := 97) dL_gains_97 ?_
    refine n_iconst_0 (pc := 98) dL_gains_98 ?_
    refine r_call5 (pc := 99) rfl rfl dL_gains_99 (b_ask0 hT hO (by decide) hpl) (by decide) (Nat.le_of_ble_eq_true rfl) ⟨by decide, by decide⟩ (fun M9 h9 => ?_)
    obtain ⟨hT, hY⟩ := h9
    have hX : ∀ i, 328 ≤ i → M9 i = M i := fun i hi => (hY i hi).trans (hX i hi)
    clear hY
    refine n_iconst_1 (pc := 102) dL_gains_102 ?_
    refine n_icmp_ne (pc := 103) 110 (by decide) dL_gains_103 (by omega) (by omega) (fun hc103 => absurd hc103 (by omega)) (fun hc103 => ?_)
    refine n_iconst_1 (pc := 106) dL_gains_106 ?_
    refine r_goto (pc := 107) 111 (by decide) dL_gains_107 ?_
    refine r_icmp_ne (pc := 111) 118 (by decide) dL_gains_111 (fun h9 => absurd rfl h9) (fun _ => ?_)
    refine n_iconst_1 (pc := 114) dL_gains_114 ?_
    refine r_goto (pc := 115) 119 (by decide) dL_gains_115 ?_
    refine r_istore10 (pc := 119) dL_gains_119 rfl ?_
    refine r_iload9 (pc := 121) dL_gains_121 ?_
    refine r_ldc (v := -9999003) (pc := 123) (tG 411 (by decide +kernel) (by decide +kernel)) dL_gains_123 ?_
    refine r_icmp_eq (pc := 125) 209 (by decide) dL_gains_125 (fun _ => ?_) (fun h9 => absurd rfl h9)
    refine G_widen rfl (show _ ≤ 11 by decide) (show _ ≤ 66 by decide) ?_
    exact s_gains2 hT hO hX hX0 hk hl
/-! no free change gains more than the best one -/
theorem nI_m1 {n : Nat} (h : n < 2147483648) : ¬ nI n = -1 := by
  rw [iI_nat, iI_m1, iI_inj (by omega) (by omega) (by omega) (by omega)]
  omega
set_option maxRecDepth 20000 in
theorem s_best2 (hO : WOK w) {X k m : Nat} {h : Int} (hk : k < zt (wz w)) (h0 : zH (wz w) k = 0) (hb : bestZ (wz w) = some (m, h)) (l : Nat) (hl : l ≤ zt (wz w)) : k < l → ∀ (M1 : Mem) (g9 : Int32) (a11 : Option Value), TW M1 (W2 w w) → (∀ i, 328 ≤ i → M1 i = M i) → G mL_best 11 (.inl false) 130 780 (tK M (W2 w w) (nI 1)) none (6 + 2 * l) (36 + 12 * l) 168 [some (.ref 0), some (.ref 164), some (.int (nI X)), some (.int (nI (zt (wz w)))), some (.int (nI m)), some (.int (iI h)), some (.int (nI k)), some (.int (nI 1)), some (.int (nI 1)), some (.int g9), some (.int (nI l)), a11] [] M1 := by
  have hZ := hO.z
  have hd := hZ.dims
  have bo := bestZ_ok hZ _ hb
  have bo : m < 30000 ∧ -100000 ≤ h ∧ h ≤ 100000 := bo
  refine up_to (N := zt (wz w)) (k := l) (fun l => k < l → ∀ (M1 : Mem) (g9 : Int32) (a11 : Option Value), TW M1 (W2 w w) → (∀ i, 328 ≤ i → M1 i = M i) → G mL_best 11 (.inl false) 130 780 (tK M (W2 w w) (nI 1)) none (6 + 2 * l) (36 + 12 * l) 168 [some (.ref 0), some (.ref 164), some (.int (nI X)), some (.int (nI (zt (wz w)))), some (.int (nI m)), some (.int (iI h)), some (.int (nI k)), some (.int (nI 1)), some (.int (nI 1)), some (.int g9), some (.int (nI l)), a11] [] M1) ?_ (fun l hl ih => ?_) hl
  · intro hkl M1 g9 a11 hT hX
    refine r_iload10 (pc := 168) dL_best_168 ?_
    refine r_iload3 (pc := 170) dL_best_170 ?_
    refine n_icmp_ge (pc := 171) 256 (by decide) dL_best_171 (by omega) (by omega) (fun hc171 => ?_) (fun hc171 => absurd hc171 (by omega))
    refine r_iload8 (pc := 256) dL_best_256 ?_
    exact p_ireturn (pc := 258) false rfl rfl (by decide) dL_best_258 (by omega) (by omega) (Or.inl rfl) ⟨rfl, hT, hX⟩
  · intro hkl M1 g9 a11 hT hX
    by_cases h1 : zH (wz w) l = 0
    · have hpl : cA 4 (nI l) (nI 5) (nI 0) w = (nI 0, w) := by rw [q_pl5 hO hl, h1]
      have sb := sg_b hZ hk hl
      obtain ⟨m', h', e1, e2⟩ := best_swap hZ hkl hl h0 h1
      rw [hb] at e1
      cases e1
      rcases e2 with e2 | ⟨e2, e3⟩
      · refine r_iload10 (pc := 168) dL_best_168 ?_
        refine r_iload3 (pc := 170) dL_best_170 ?_
        refine n_icmp_ge (pc := 171) 256 (by decide) dL_best_171 (by omega) (by omega) (fun hc171 => absurd hc171 (by omega)) (fun hc171 => ?_)
        refine r_iload8 (pc := 174) dL_best_174 ?_
        refine n_if_eq (pc := 176) 256 (by decide) dL_best_176 (by omega) (fun hc176 => absurd hc176 (by omega)) (fun hc176 => ?_)
        refine r_iload7 (pc := 179) dL_best_179 ?_
        refine n_if_eq (pc := 181) 256 (by decide) dL_best_181 (by omega) (fun hc181 => absurd hc181 (by omega)) (fun hc181 => ?_)
        refine r_aload0 (pc := 184) dL_best_184 ?_
        refine n_iconst_4 (pc := 185) dL_best_185 ?_
        refine r_iload10 (pc := 186) dL_best_186 ?_
        refine n_iconst_5 (pc := 188) dL_best_188 ?_
        refine n_iconst_0 (pc := 189) dL_best_189 ?_
        refine r_call5 (pc := 190) rfl rfl dL_best_190 (b_ask0 hT hO (by decide) hpl) (by decide) (Nat.le_of_ble_eq_true rfl) ⟨by omega, by omega⟩ (fun M9 h9 => ?_)
        obtain ⟨hT, hY⟩ := h9
        have hX : ∀ i, 328 ≤ i → M9 i = M i := fun i hi => (hY i hi).trans (hX i hi)
        clear hY
        refine n_if_ne (pc := 193) 250 (by decide) dL_best_193 (by omega) (fun hc193 => absurd hc193 (by omega)) (fun hc193 => ?_)
        refine n_sipush (pc := 196) 10000 (by decide) dL_best_196 ?_
        refine n_bipush (pc := 199) 100 (by decide) dL_best_199 ?_
        refine r_iload6 (pc := 201) dL_best_201 ?_
        first | refine n_imul (pc := 203) dL_best_203 ?_ | refine z_imul (pc := 203) dL_best_203 ?_ | refine r_imul (pc := 203) dL_best_203 ?_
        first | refine n_iadd (pc := 204) dL_best_204 ?_ | refine z_iadd (pc := 204) dL_best_204 ?_ | refine r_iadd (pc := 204) dL_best_204 ?_
        refine r_iload10 (pc := 205) dL_best_205 ?_
        first | refine n_iadd (pc := 207) dL_best_207 ?_ | refine z_iadd (pc := 207) dL_best_207 ?_ | refine r_iadd (pc := 207) dL_best_207 ?_
        refine r_istore11 (pc := 208) dL_best_208 rfl ?_
        refine r_aload0 (pc := 210) dL_best_210 ?_
        refine n_bipush (pc := 211) 14 (by decide) dL_best_211 ?_
        refine r_iload11 (pc := 213) dL_best_213 ?_
        refine n_iconst_0 (pc := 215) dL_best_215 ?_
        refine n_iconst_0 (pc := 216) dL_best_216 ?_
        refine r_call5 (pc := 217) rfl rfl dL_best_217 (b_ask0 hT hO (by decide) (q_gainS hO hkl hl)) (by decide) (Nat.le_of_ble_eq_true rfl) ⟨by omega, by omega⟩ (fun M9 h9 => ?_)
        obtain ⟨hT, hY⟩ := h9
        have hX : ∀ i, 328 ≤ i → M9 i = M i := fun i hi => (hY i hi).trans (hX i hi)
        clear hY
        refine r_istore9 (pc := 220) dL_best_220 rfl ?_
        refine r_iload9 (pc := 222) dL_best_222 ?_
        refine r_iload5 (pc := 224) dL_best_224 ?_
        refine z_icmp_lt (pc := 226) 243 (by decide) dL_best_226 (by omega) (by omega) (by omega) (by omega) (fun hc226 => ?_) (fun hc226 => absurd hc226 (by omega))
        refine n_iconst_1 (pc := 243) dL_best_243 ?_
        refine r_goto (pc := 244) 248 (by decide) dL_best_244 ?_
        refine r_istore8 (pc := 248) dL_best_248 rfl ?_
        refine n_iinc10 (pc := 250) dL_best_250 rfl ?_
        refine r_goto (pc := 253) 168 (by decide) dL_best_253 ?_
        refine G_widen rfl (show _ ≤ 6 + 2 * (l + 1) by omega) (show _ ≤ 36 + 12 * (l + 1) by omega) ?_
        exact ih (by omega) _ _ _ hT hX
      · refine r_iload10 (pc := 168) dL_best_168 ?_
        refine r_iload3 (pc := 170) dL_best_170 ?_
        refine n_icmp_ge (pc := 171) 256 (by decide) dL_best_171 (by omega) (by omega) (fun hc171 => absurd hc171 (by omega)) (fun hc171 => ?_)
        refine r_iload8 (pc := 174) dL_best_174 ?_
        refine n_if_eq (pc := 176) 256 (by decide) dL_best_176 (by omega) (fun hc176 => absurd hc176 (by omega)) (fun hc176 => ?_)
        refine r_iload7 (pc := 179) dL_best_179 ?_
        refine n_if_eq (pc := 181) 256 (by decide) dL_best_181 (by omega) (fun hc181 => absurd hc181 (by omega)) (fun hc181 => ?_)
        refine r_aload0 (pc := 184) dL_best_184 ?_
        refine n_iconst_4 (pc := 185) dL_best_185 ?_
        refine r_iload10 (pc := 186) dL_best_186 ?_
        refine n_iconst_5 (pc := 188) dL_best_188 ?_
        refine n_iconst_0 (pc := 189) dL_best_189 ?_
        refine r_call5 (pc := 190) rfl rfl dL_best_190 (b_ask0 hT hO (by decide) hpl) (by decide) (Nat.le_of_ble_eq_true rfl) ⟨by omega, by omega⟩ (fun M9 h9 => ?_)
        obtain ⟨hT, hY⟩ := h9
        have hX : ∀ i, 328 ≤ i → M9 i = M i := fun i hi => (hY i hi).trans (hX i hi)
        clear hY
        refine n_if_ne (pc := 193) 250 (by decide) dL_best_193 (by omega) (fun hc193 => absurd hc193 (by omega)) (fun hc193 => ?_)
        refine n_sipush (pc := 196) 10000 (by decide) dL_best_196 ?_
        refine n_bipush (pc := 199) 100 (by decide) dL_best_199 ?_
        refine r_iload6 (pc := 201) dL_best_201 ?_
        first | refine n_imul (pc := 203) dL_best_203 ?_ | refine z_imul (pc := 203) dL_best_203 ?_ | refine r_imul (pc := 203) dL_best_203 ?_
        first | refine n_iadd (pc := 204) dL_best_204 ?_ | refine z_iadd (pc := 204) dL_best_204 ?_ | refine r_iadd (pc := 204) dL_best_204 ?_
        refine r_iload10 (pc := 205) dL_best_205 ?_
        first | refine n_iadd (pc := 207) dL_best_207 ?_ | refine z_iadd (pc := 207) dL_best_207 ?_ | refine r_iadd (pc := 207) dL_best_207 ?_
        refine r_istore11 (pc := 208) dL_best_208 rfl ?_
        refine r_aload0 (pc := 210) dL_best_210 ?_
        refine n_bipush (pc := 211) 14 (by decide) dL_best_211 ?_
        refine r_iload11 (pc := 213) dL_best_213 ?_
        refine n_iconst_0 (pc := 215) dL_best_215 ?_
        refine n_iconst_0 (pc := 216) dL_best_216 ?_
        refine r_call5 (pc := 217) rfl rfl dL_best_217 (b_ask0 hT hO (by decide) (q_gainS hO hkl hl)) (by decide) (Nat.le_of_ble_eq_true rfl) ⟨by omega, by omega⟩ (fun M9 h9 => ?_)
        obtain ⟨hT, hY⟩ := h9
        have hX : ∀ i, 328 ≤ i → M9 i = M i := fun i hi => (hY i hi).trans (hX i hi)
        clear hY
        refine r_istore9 (pc := 220) dL_best_220 rfl ?_
        refine r_iload9 (pc := 222) dL_best_222 ?_
        refine r_iload5 (pc := 224) dL_best_224 ?_
        refine z_icmp_lt (pc := 226) 243 (by decide) dL_best_226 (by omega) (by omega) (by omega) (by omega) (fun hc226 => absurd hc226 (by omega)) (fun hc226 => ?_)
        refine r_iload9 (pc := 229) dL_best_229 ?_
        refine r_iload5 (pc := 231) dL_best_231 ?_
        refine z_icmp_ne (pc := 233) 247 (by decide) dL_best_233 (by omega) (by omega) (by omega) (by omega) (fun hc233 => absurd hc233 (by omega)) (fun hc233 => ?_)
        refine r_iload11 (pc := 236) dL_best_236 ?_
        refine r_iload4 (pc := 238) dL_best_238 ?_
        refine n_icmp_lt (pc := 240) 247 (by decide) dL_best_240 (by omega) (by omega) (fun hc240 => absurd hc240 (by omega)) (fun hc240 => ?_)
        refine n_iconst_1 (pc := 243) dL_best_243 ?_
        refine r_goto (pc := 244) 248 (by decide) dL_best_244 ?_
        refine r_istore8 (pc := 248) dL_best_248 rfl ?_
        refine n_iinc10 (pc := 250) dL_best_250 rfl ?_
        refine r_goto (pc := 253) 168 (by decide) dL_best_253 ?_
        refine G_widen rfl (show _ ≤ 6 + 2 * (l + 1) by omega) (show _ ≤ 36 + 12 * (l + 1) by omega) ?_
        exact ih (by omega) _ _ _ hT hX
    · have h2 : zH (wz w) l = 1 := by have := hZ.h hl; omega
      have hpl : cA 4 (nI l) (nI 5) (nI 0) w = (nI 1, w) := by rw [q_pl5 hO hl, h2]
      refine r_iload10 (pc := 168) dL_best_168 ?_
      refine r_iload3 (pc := 170) dL_best_170 ?_
      refine n_icmp_ge (pc := 171) 256 (by decide) dL_best_171 (by omega) (by omega) (fun hc171 => absurd hc171 (by omega)) (fun hc171 => ?_)
      refine r_iload8 (pc := 174) dL_best_174 ?_
      refine n_if_eq (pc := 176) 256 (by decide) dL_best_176 (by omega) (fun hc176 => absurd hc176 (by omega)) (fun hc176 => ?_)
      refine r_iload7 (pc := 179) dL_best_179 ?_
      refine n_if_eq (pc := 181) 256 (by decide) dL_best_181 (by omega) (fun hc181 => absurd hc181 (by omega)) (fun hc181 => ?_)
      refine r_aload0 (pc := 184) dL_best_184 ?_
      refine n_iconst_4 (pc := 185) dL_best_185 ?_
      refine r_iload10 (pc := 186) dL_best_186 ?_
      refine n_iconst_5 (pc := 188) dL_best_188 ?_
      refine n_iconst_0 (pc := 189) dL_best_189 ?_
      refine r_call5 (pc := 190) rfl rfl dL_best_190 (b_ask0 hT hO (by decide) hpl) (by decide) (Nat.le_of_ble_eq_true rfl) ⟨by omega, by omega⟩ (fun M9 h9 => ?_)
      obtain ⟨hT, hY⟩ := h9
      have hX : ∀ i, 328 ≤ i → M9 i = M i := fun i hi => (hY i hi).trans (hX i hi)
      clear hY
      refine n_if_ne (pc := 193) 250 (by decide) dL_best_193 (by omega) (fun hc193 => ?_) (fun hc193 => absurd hc193 (by omega))
      refine n_iinc10 (pc := 250) dL_best_250 rfl ?_
      refine r_goto (pc := 253) 168 (by decide) dL_best_253 ?_
      refine G_widen rfl (show _ ≤ 6 + 2 * (l + 1) by omega) (show _ ≤ 36 + 12 * (l + 1) by omega) ?_
      exact ih (by omega) _ _ _ hT hX
set_option maxRecDepth 20000 in
theorem s_best (hT : TW M (W2 w w)) (hO : WOK w) {X : Nat} (hX0 : X < 2147483648) : SpecP mL_best 11 130 780 [.ref 0, .ref 164, .int (nI X)] M (tK M (W2 w w) (nI 1)) := by
  have hZ := hO.z
  have hd := hZ.dims
  have hX : ∀ i, 328 ≤ i → M i = M i := fun _ _ => rfl
  have hk : X % zt (wz w) < zt (wz w) := Nat.mod_lt _ (by omega)
  refine Spec_of [some (.ref 0), some (.ref 164), some (.int (nI X)), none, none, none, none, none, none, none, none, none] (by decide) (Nat.le_of_ble_eq_true rfl) rfl ?_
  refine r_aload0 (pc := 0) dL_best_0 ?_
  refine n_iconst_2 (pc := 1) dL_best_1 ?_
  refine n_iconst_4 (pc := 2) dL_best_2 ?_
  refine n_iconst_0 (pc := 3) dL_best_3 ?_
  refine n_iconst_0 (pc := 4) dL_best_4 ?_
  refine r_call5 (pc := 5) rfl rfl dL_best_5 (b_ask0 hT hO (by decide) q_ab4) (by decide) (Nat.le_of_ble_eq_true rfl) ⟨by decide, by decide⟩ (fun M9 h9 => ?_)
  obtain ⟨hT, hY⟩ := h9
  have hX : ∀ i, 328 ≤ i → M9 i = M i := fun i hi => (hY i hi).trans (hX i hi)
  clear hY
  refine r_istore3 (pc := 8) dL_best_8 rfl ?_
  refine r_aload0 (pc := 9) dL_best_9 ?_
  refine n_bipush (pc := 10) 15 (by decide) dL_best_10 ?_
  refine n_iconst_0 (pc := 12) dL_best_12 ?_
  refine n_iconst_0 (pc := 13) dL_best_13 ?_
  refine n_iconst_0 (pc := 14) dL_best_14 ?_
  refine r_call5 (pc := 15) rfl rfl dL_best_15 (b_ask0 hT hO (by decide) q_best0) (by decide) (Nat.le_of_ble_eq_true rfl) ⟨by decide, by decide⟩ (fun M9 h9 => ?_)
  obtain ⟨hT, hY⟩ := h9
  have hX : ∀ i, 328 ≤ i → M9 i = M i := fun i hi => (hY i hi).trans (hX i hi)
  clear hY
  refine r_istore4 (pc := 18) dL_best_18 rfl ?_
  refine r_aload0 (pc := 20) dL_best_20 ?_
  refine n_bipush (pc := 21) 15 (by decide) dL_best_21 ?_
  refine n_iconst_1 (pc := 23) dL_best_23 ?_
  refine n_iconst_0 (pc := 24) dL_best_24 ?_
  refine n_iconst_0 (pc := 25) dL_best_25 ?_
  refine r_call5 (pc := 26) rfl rfl dL_best_26 (b_ask0 hT hO (by decide) q_best1) (by decide) (Nat.le_of_ble_eq_true rfl) ⟨by decide, by decide⟩ (fun M9 h9 => ?_)
  obtain ⟨hT, hY⟩ := h9
  have hX : ∀ i, 328 ≤ i → M9 i = M i := fun i hi => (hY i hi).trans (hX i hi)
  clear hY
  refine r_istore5 (pc := 29) dL_best_29 rfl ?_
  refine r_iload2 (pc := 31) dL_best_31 ?_
  refine r_iload3 (pc := 32) dL_best_32 ?_
  refine n_irem (pc := 33) dL_best_33 (by omega) (by omega) (by omega) ?_
  refine r_istore6 (pc := 34) dL_best_34 rfl ?_
  generalize X % zt (wz w) = k at hk ⊢
  have tb := tg_b hZ hk
  cases hb : bestZ (wz w) with
  | none =>
    have h0 := best_none hb hk
    have h1 : zH (wz w) k = 1 := by have := hZ.h hk; omega
    have hpl : cA 4 (nI k) (nI 5) (nI 0) w = (nI 1, w) := by rw [q_pl5 hO hk, h1]
    have hbn : cA 15 (nI 0) (nI 0) (nI 0) w = (-1, w) := by rw [q_best0, hb]; rfl
    refine G_lv (lv' := [some (.ref 0), some (.ref 164), some (.int (nI X)), some (.int (nI (zt (wz w)))), some (.int (-1)), some (.int (iI 0)), some (.int (nI k)), none, none, none, none, none]) rfl ?_
    refine r_aload0 (pc := 36) dL_best_36 ?_
    refine n_iconst_4 (pc := 37) dL_best_37 ?_
    refine r_iload6 (pc := 38) dL_best_38 ?_
    refine n_iconst_5 (pc := 40) dL_best_40 ?_
    refine n_iconst_0 (pc := 41) dL_best_41 ?_
    refine r_call5 (pc := 42) rfl rfl dL_best_42 (b_ask0 hT hO (by decide) hpl) (by decide) (Nat.le_of_ble_eq_true rfl) ⟨by decide, by decide⟩ (fun M9 h9 => ?_)
    obtain ⟨hT, hY⟩ := h9
    have hX : ∀ i, 328 ≤ i → M9 i = M i := fun i hi => (hY i hi).trans (hX i hi)
    clear hY
    refine n_if_ne (pc := 45) 52 (by decide) dL_best_45 (by omega) (fun hc45 => ?_) (fun hc45 => absurd hc45 (by omega))
    refine n_iconst_0 (pc := 52) dL_best_52 ?_
    refine r_istore7 (pc := 53) dL_best_53 rfl ?_
    refine r_iload4 (pc := 55) dL_best_55 ?_
    refine r_iconst_m1 (pc := 57) dL_best_57 ?_
    refine r_icmp_ne (pc := 58) 90 (by decide) dL_best_58 (fun h9 => absurd rfl h9) (fun _ => ?_)
    refine r_iload5 (pc := 61) dL_best_61 ?_
    refine z_if_ne (pc := 63) 88 (by decide) dL_best_63 (by omega) (by omega) (fun hc63 => absurd hc63 (by omega)) (fun hc63 => ?_)
    refine r_iload7 (pc := 66) dL_best_66 ?_
    refine n_if_ne (pc := 68) 88 (by decide) dL_best_68 (by omega) (fun hc68 => absurd hc68 (by omega)) (fun hc68 => ?_)
    refine r_aload1 (pc := 71) dL_best_71 ?_
    refine n_bipush (pc := 72) 15 (by decide) dL_best_72 ?_
    refine n_iconst_0 (pc := 74) dL_best_74 ?_
    refine n_iconst_0 (pc := 75) dL_best_75 ?_
    refine n_iconst_0 (pc := 76) dL_best_76 ?_
    refine r_call5 (pc := 77) rfl rfl dL_best_77 (b_ask1 hT hO (by decide) hbn) (by decide) (Nat.le_of_ble_eq_true rfl) ⟨by decide, by decide⟩ (fun M9 h9 => ?_)
    obtain ⟨hT, hY⟩ := h9
    have hX : ∀ i, 328 ≤ i → M9 i = M i := fun i hi => (hY i hi).trans (hX i hi)
    clear hY
    refine r_iconst_m1 (pc := 80) dL_best_80 ?_
    refine r_icmp_ne (pc := 81) 88 (by decide) dL_best_81 (fun h9 => absurd rfl h9) (fun _ => ?_)
    refine n_iconst_1 (pc := 84) dL_best_84 ?_
    refine r_goto (pc := 85) 89 (by decide) dL_best_85 ?_
    exact p_ireturn (pc := 89) false rfl rfl (by decide) dL_best_89 (by decide) (by decide) (Or.inl rfl) ⟨rfl, hT, hX⟩
  | some q =>
    obtain ⟨m, h⟩ := q
    have bo := bestZ_ok hZ _ hb
    have bo : m < 30000 ∧ -100000 ≤ h ∧ h ≤ 100000 := bo
    obtain ⟨v1, v2, v3⟩ := VG_gn hZ (bestZ_g _ hb)
    have v1 : posZ (wz w) m = true := v1
    have v2 : gnZ (wz w) m = h := v2
    have hgm : cA 14 (nI m) (nI 0) (nI 0) w = (iI h, w) := by rw [q_gain v3 v1, v2]
    refine G_lv (lv' := [some (.ref 0), some (.ref 164), some (.int (nI X)), some (.int (nI (zt (wz w)))), some (.int (nI m)), some (.int (iI h)), some (.int (nI k)), none, none, none, none, none]) rfl ?_
    by_cases h0 : zH (wz w) k = 0
    · have hpl : cA 4 (nI k) (nI 5) (nI 0) w = (nI 0, w) := by rw [q_pl5 hO hk, h0]
      obtain ⟨m', h', e1, e2⟩ := best_turn hk h0
      rw [hb] at e1
      cases e1
      rcases e2 with e2 | ⟨e2, e3⟩
      · refine r_aload0 (pc := 36) dL_best_36 ?_
        refine n_iconst_4 (pc := 37) dL_best_37 ?_
        refine r_iload6 (pc := 38) dL_best_38 ?_
        refine n_iconst_5 (pc := 40) dL_best_40 ?_
        refine n_iconst_0 (pc := 41) dL_best_41 ?_
        refine r_call5 (pc := 42) rfl rfl dL_best_42 (b_ask0 hT hO (by decide) hpl) (by decide) (Nat.le_of_ble_eq_true rfl) ⟨by decide, by decide⟩ (fun M9 h9 => ?_)
        obtain ⟨hT, hY⟩ := h9
        have hX : ∀ i, 328 ≤ i → M9 i = M i := fun i hi => (hY i hi).trans (hX i hi)
        clear hY
        refine n_if_ne (pc := 45) 52 (by decide) dL_best_45 (by omega) (fun hc45 => absurd hc45 (by omega)) (fun hc45 => ?_)
        refine n_iconst_1 (pc := 48) dL_best_48 ?_
        refine r_goto (pc := 49) 53 (by decide) dL_best_49 ?_
        refine r_istore7 (pc := 53) dL_best_53 rfl ?_
        refine r_iload4 (pc := 55) dL_best_55 ?_
        refine r_iconst_m1 (pc := 57) dL_best_57 ?_
        refine r_icmp_ne (pc := 58) 90 (by decide) dL_best_58 (fun _ => ?_) (fun h9 => absurd h9 (nI_m1 (by omega)))
        refine r_aload0 (pc := 90) dL_best_90 ?_
        refine n_bipush (pc := 91) 14 (by decide) dL_best_91 ?_
        refine r_iload4 (pc := 93) dL_best_93 ?_
        refine n_iconst_0 (pc := 95) dL_best_95 ?_
        refine n_iconst_0 (pc := 96) dL_best_96 ?_
        refine r_call5 (pc := 97) rfl rfl dL_best_97 (b_ask0 hT hO (by decide) hgm) (by decide) (Nat.le_of_ble_eq_true rfl) ⟨by decide, by decide⟩ (fun M9 h9 => ?_)
        obtain ⟨hT, hY⟩ := h9
        have hX : ∀ i, 328 ≤ i → M9 i = M i := fun i hi => (hY i hi).trans (hX i hi)
        clear hY
        refine r_iload5 (pc := 100) dL_best_100 ?_
        refine r_icmp_ne (pc := 102) 109 (by decide) dL_best_102 (fun h9 => absurd rfl h9) (fun _ => ?_)
        refine n_iconst_1 (pc := 105) dL_best_105 ?_
        refine r_goto (pc := 106) 110 (by decide) dL_best_106 ?_
        refine r_istore8 (pc := 110) dL_best_110 rfl ?_
        refine r_aload0 (pc := 112) dL_best_112 ?_
        refine n_bipush (pc := 113) 14 (by decide) dL_best_113 ?_
        refine r_iload6 (pc := 115) dL_best_115 ?_
        refine n_iconst_0 (pc := 117) dL_best_117 ?_
        refine n_iconst_0 (pc := 118) dL_best_118 ?_
        refine r_call5 (pc := 119) rfl rfl dL_best_119 (b_ask0 hT hO (by decide) (q_gainT hO hk)) (by decide) (Nat.le_of_ble_eq_true rfl) ⟨by decide, by decide⟩ (fun M9 h9 => ?_)
        obtain ⟨hT, hY⟩ := h9
        have hX : ∀ i, 328 ≤ i → M9 i = M i := fun i hi => (hY i hi).trans (hX i hi)
        clear hY
        refine r_istore9 (pc := 122) dL_best_122 rfl ?_
        refine r_iload8 (pc := 124) dL_best_124 ?_
        refine n_if_eq (pc := 126) 159 (by decide) dL_best_126 (by omega) (fun hc126 => absurd hc126 (by omega)) (fun hc126 => ?_)
        refine r_iload7 (pc := 129) dL_best_129 ?_
        refine n_if_eq (pc := 131) 155 (by decide) dL_best_131 (by omega) (fun hc131 => absurd hc131 (by omega)) (fun hc131 => ?_)
        refine r_iload9 (pc := 134) dL_best_134 ?_
        refine r_iload5 (pc := 136) dL_best_136 ?_
        refine z_icmp_lt (pc := 138) 155 (by decide) dL_best_138 (by omega) (by omega) (by omega) (by omega) (fun hc138 => ?_) (fun hc138 => absurd hc138 (by omega))
        refine n_iconst_1 (pc := 155) dL_best_155 ?_
        refine r_goto (pc := 156) 160 (by decide) dL_best_156 ?_
        refine r_istore8 (pc := 160) dL_best_160 rfl ?_
        refine r_iload6 (pc := 162) dL_best_162 ?_
        refine n_iconst_1 (pc := 164) dL_best_164 ?_
        first | refine n_iadd (pc := 165) dL_best_165 ?_ | refine z_iadd (pc := 165) dL_best_165 ?_ | refine r_iadd (pc := 165) dL_best_165 ?_
        refine r_istore10 (pc := 166) dL_best_166 rfl ?_
        refine G_widen rfl (show _ ≤ 6 + 2 * (k + 1) by omega) (show _ ≤ 36 + 12 * (k + 1) by omega) ?_
        exact s_best2 hO hk h0 hb (k + 1) (by omega) (by omega) _ _ _ hT hX
      · refine r_aload0 (pc := 36) dL_best_36 ?_
        refine n_iconst_4 (pc := 37) dL_best_37 ?_
        refine r_iload6 (pc := 38) dL_best_38 ?_
        refine n_iconst_5 (pc := 40) dL_best_40 ?_
        refine n_iconst_0 (pc := 41) dL_best_41 ?_
        refine r_call5 (pc := 42) rfl rfl dL_best_42 (b_ask0 hT hO (by decide) hpl) (by decide) (Nat.le_of_ble_eq_true rfl) ⟨by decide, by decide⟩ (fun M9 h9 => ?_)
        obtain ⟨hT, hY⟩ := h9
        have hX : ∀ i, 328 ≤ i → M9 i = M i := fun i hi => (hY i hi).trans (hX i hi)
        clear hY
        refine n_if_ne (pc := 45) 52 (by decide) dL_best_45 (by omega) (fun hc45 => absurd hc45 (by omega)) (fun hc45 => ?_)
        refine n_iconst_1 (pc := 48) dL_best_48 ?_
        refine r_goto (pc := 49) 53 (by decide) dL_best_49 ?_
        refine r_istore7 (pc := 53) dL_best_53 rfl ?_
        refine r_iload4 (pc := 55) dL_best_55 ?_
        refine r_iconst_m1 (pc := 57) dL_best_57 ?_
        refine r_icmp_ne (pc := 58) 90 (by decide) dL_best_58 (fun _ => ?_) (fun h9 => absurd h9 (nI_m1 (by omega)))
        refine r_aload0 (pc := 90) dL_best_90 ?_
        refine n_bipush (pc := 91) 14 (by decide) dL_best_91 ?_
        refine r_iload4 (pc := 93) dL_best_93 ?_
        refine n_iconst_0 (pc := 95) dL_best_95 ?_
        refine n_iconst_0 (pc := 96) dL_best_96 ?_
        refine r_call5 (pc := 97) rfl rfl dL_best_97 (b_ask0 hT hO (by decide) hgm) (by decide) (Nat.le_of_ble_eq_true rfl) ⟨by decide, by decide⟩ (fun M9 h9 => ?_)
        obtain ⟨hT, hY⟩ := h9
        have hX : ∀ i, 328 ≤ i → M9 i = M i := fun i hi => (hY i hi).trans (hX i hi)
        clear hY
        refine r_iload5 (pc := 100) dL_best_100 ?_
        refine r_icmp_ne (pc := 102) 109 (by decide) dL_best_102 (fun h9 => absurd rfl h9) (fun _ => ?_)
        refine n_iconst_1 (pc := 105) dL_best_105 ?_
        refine r_goto (pc := 106) 110 (by decide) dL_best_106 ?_
        refine r_istore8 (pc := 110) dL_best_110 rfl ?_
        refine r_aload0 (pc := 112) dL_best_112 ?_
        refine n_bipush (pc := 113) 14 (by decide) dL_best_113 ?_
        refine r_iload6 (pc := 115) dL_best_115 ?_
        refine n_iconst_0 (pc := 117) dL_best_117 ?_
        refine n_iconst_0 (pc := 118) dL_best_118 ?_
        refine r_call5 (pc := 119) rfl rfl dL_best_119 (b_ask0 hT hO (by decide) (q_gainT hO hk)) (by decide) (Nat.le_of_ble_eq_true rfl) ⟨by decide, by decide⟩ (fun M9 h9 => ?_)
        obtain ⟨hT, hY⟩ := h9
        have hX : ∀ i, 328 ≤ i → M9 i = M i := fun i hi => (hY i hi).trans (hX i hi)
        clear hY
        refine r_istore9 (pc := 122) dL_best_122 rfl ?_
        refine r_iload8 (pc := 124) dL_best_124 ?_
        refine n_if_eq (pc := 126) 159 (by decide) dL_best_126 (by omega) (fun hc126 => absurd hc126 (by omega)) (fun hc126 => ?_)
        refine r_iload7 (pc := 129) dL_best_129 ?_
        refine n_if_eq (pc := 131) 155 (by decide) dL_best_131 (by omega) (fun hc131 => absurd hc131 (by omega)) (fun hc131 => ?_)
        refine r_iload9 (pc := 134) dL_best_134 ?_
        refine r_iload5 (pc := 136) dL_best_136 ?_
        refine z_icmp_lt (pc := 138) 155 (by decide) dL_best_138 (by omega) (by omega) (by omega) (by omega) (fun hc138 => absurd hc138 (by omega)) (fun hc138 => ?_)
        refine r_iload9 (pc := 141) dL_best_141 ?_
        refine r_iload5 (pc := 143) dL_best_143 ?_
        refine z_icmp_ne (pc := 145) 159 (by decide) dL_best_145 (by omega) (by omega) (by omega) (by omega) (fun hc145 => absurd hc145 (by omega)) (fun hc145 => ?_)
        refine r_iload6 (pc := 148) dL_best_148 ?_
        refine r_iload4 (pc := 150) dL_best_150 ?_
        refine n_icmp_lt (pc := 152) 159 (by decide) dL_best_152 (by omega) (by omega) (fun hc152 => absurd hc152 (by omega)) (fun hc152 => ?_)
        refine n_iconst_1 (pc := 155) dL_best_155 ?_
        refine r_goto (pc := 156) 160 (by decide) dL_best_156 ?_
        refine r_istore8 (pc := 160) dL_best_160 rfl ?_
        refine r_iload6 (pc := 162) dL_best_162 ?_
        refine n_iconst_1 (pc := 164) dL_best_164 ?_
        first | refine n_iadd (pc := 165) dL_best_165 ?_ | refine z_iadd (pc := 165) dL_best_165 ?_ | refine r_iadd (pc := 165) dL_best_165 ?_
        refine r_istore10 (pc := 166) dL_best_166 rfl ?_
        refine G_widen rfl (show _ ≤ 6 + 2 * (k + 1) by omega) (show _ ≤ 36 + 12 * (k + 1) by omega) ?_
        exact s_best2 hO hk h0 hb (k + 1) (by omega) (by omega) _ _ _ hT hX
    · have h1 : zH (wz w) k = 1 := by have := hZ.h hk; omega
      have hpl : cA 4 (nI k) (nI 5) (nI 0) w = (nI 1, w) := by rw [q_pl5 hO hk, h1]
      refine r_aload0 (pc := 36) dL_best_36 ?_
      refine n_iconst_4 (pc := 37) dL_best_37 ?_
      refine r_iload6 (pc := 38) dL_best_38 ?_
      refine n_iconst_5 (pc := 40) dL_best_40 ?_
      refine n_iconst_0 (pc := 41) dL_best_41 ?_
      refine r_call5 (pc := 42) rfl rfl dL_best_42 (b_ask0 hT hO (by decide) hpl) (by decide) (Nat.le_of_ble_eq_true rfl) ⟨by decide, by decide⟩ (fun M9 h9 => ?_)
      obtain ⟨hT, hY⟩ := h9
      have hX : ∀ i, 328 ≤ i → M9 i = M i := fun i hi => (hY i hi).trans (hX i hi)
      clear hY
      refine n_if_ne (pc := 45) 52 (by decide) dL_best_45 (by omega) (fun hc45 => ?_) (fun hc45 => absurd hc45 (by omega))
      refine n_iconst_0 (pc := 52) dL_best_52 ?_
      refine r_istore7 (pc := 53) dL_best_53 rfl ?_
      refine r_iload4 (pc := 55) dL_best_55 ?_
      refine r_iconst_m1 (pc := 57) dL_best_57 ?_
      refine r_icmp_ne (pc := 58) 90 (by decide) dL_best_58 (fun _ => ?_) (fun h9 => absurd h9 (nI_m1 (by omega)))
      refine r_aload0 (pc := 90) dL_best_90 ?_
      refine n_bipush (pc := 91) 14 (by decide) dL_best_91 ?_
      refine r_iload4 (pc := 93) dL_best_93 ?_
      refine n_iconst_0 (pc := 95) dL_best_95 ?_
      refine n_iconst_0 (pc := 96) dL_best_96 ?_
      refine r_call5 (pc := 97) rfl rfl dL_best_97 (b_ask0 hT hO (by decide) hgm) (by decide) (Nat.le_of_ble_eq_true rfl) ⟨by decide, by decide⟩ (fun M9 h9 => ?_)
      obtain ⟨hT, hY⟩ := h9
      have hX : ∀ i, 328 ≤ i → M9 i = M i := fun i hi => (hY i hi).trans (hX i hi)
      clear hY
      refine r_iload5 (pc := 100) dL_best_100 ?_
      refine r_icmp_ne (pc := 102) 109 (by decide) dL_best_102 (fun h9 => absurd rfl h9) (fun _ => ?_)
      refine n_iconst_1 (pc := 105) dL_best_105 ?_
      refine r_goto (pc := 106) 110 (by decide) dL_best_106 ?_
      refine r_istore8 (pc := 110) dL_best_110 rfl ?_
      refine r_aload0 (pc := 112) dL_best_112 ?_
      refine n_bipush (pc := 113) 14 (by decide) dL_best_113 ?_
      refine r_iload6 (pc := 115) dL_best_115 ?_
      refine n_iconst_0 (pc := 117) dL_best_117 ?_
      refine n_iconst_0 (pc := 118) dL_best_118 ?_
      refine r_call5 (pc := 119) rfl rfl dL_best_119 (b_ask0 hT hO (by decide) (q_gainT hO hk)) (by decide) (Nat.le_of_ble_eq_true rfl) ⟨by decide, by decide⟩ (fun M9 h9 => ?_)
      obtain ⟨hT, hY⟩ := h9
      have hX : ∀ i, 328 ≤ i → M9 i = M i := fun i hi => (hY i hi).trans (hX i hi)
      clear hY
      refine r_istore9 (pc := 122) dL_best_122 rfl ?_
      refine r_iload8 (pc := 124) dL_best_124 ?_
      refine n_if_eq (pc := 126) 159 (by decide) dL_best_126 (by omega) (fun hc126 => absurd hc126 (by omega)) (fun hc126 => ?_)
      refine r_iload7 (pc := 129) dL_best_129 ?_
      refine n_if_eq (pc := 131) 155 (by decide) dL_best_131 (by omega) (fun hc131 => ?_) (fun hc131 => absurd hc131 (by omega))
      refine n_iconst_1 (pc := 155) dL_best_155 ?_
      refine r_goto (pc := 156) 160 (by decide) dL_best_156 ?_
      refine r_istore8 (pc := 160) dL_best_160 rfl ?_
      refine r_iload6 (pc := 162) dL_best_162 ?_
      refine n_iconst_1 (pc := 164) dL_best_164 ?_
      first | refine n_iadd (pc := 165) dL_best_165 ?_ | refine z_iadd (pc := 165) dL_best_165 ?_ | refine r_iadd (pc := 165) dL_best_165 ?_
      refine r_istore10 (pc := 166) dL_best_166 rfl ?_
      by_cases hz : zt (wz w) ≤ k + 1
      · refine r_iload10 (pc := 168) dL_best_168 ?_
        refine r_iload3 (pc := 170) dL_best_170 ?_
        refine n_icmp_ge (pc := 171) 256 (by decide) dL_best_171 (by omega) (by omega) (fun hc171 => ?_) (fun hc171 => absurd hc171 (by omega))
        refine r_iload8 (pc := 256) dL_best_256 ?_
        exact p_ireturn (pc := 258) false rfl rfl (by decide) dL_best_258 (by decide) (by decide) (Or.inl rfl) ⟨rfl, hT, hX⟩
      · refine r_iload10 (pc := 168) dL_best_168 ?_
        refine r_iload3 (pc := 170) dL_best_170 ?_
        refine n_icmp_ge (pc := 171) 256 (by decide) dL_best_171 (by omega) (by omega) (fun hc171 => absurd hc171 (by omega)) (fun hc171 => ?_)
        refine r_iload8 (pc := 174) dL_best_174 ?_
        refine n_if_eq (pc := 176) 256 (by decide) dL_best_176 (by omega) (fun hc176 => absurd hc176 (by omega)) (fun hc176 => ?_)
        refine r_iload7 (pc := 179) dL_best_179 ?_
        refine n_if_eq (pc := 181) 256 (by decide) dL_best_181 (by omega) (fun hc181 => ?_) (fun hc181 => absurd hc181 (by omega))
        refine r_iload8 (pc := 256) dL_best_256 ?_
        exact p_ireturn (pc := 258) false rfl rfl (by decide) dL_best_258 (by decide) (by decide) (Or.inl rfl) ⟨rfl, hT, hX⟩
/-! best changes, one after the other -/
set_option maxRecDepth 20000 in
theorem s_improves2 (hT : TW M1 (W2 w w)) (hO : WOK w) (hX : ∀ i, 328 ≤ i → M1 i = M i) {m : Nat} (hm1 : 1 ≤ m) (hm2 : m ≤ 20) {a7 : Option Value} : G mL_improves 11 (.inl false) 20 120 (tE M) none 4 24 79 [some (.ref 0), some (.ref 164), some (.int (nI m)), some (.int (iI (erAll (wz w) - erAll (impZ m (wz w))))), some (.int (nI (impN m (wz w)))), some (.int (iI (erAll (wz w)))), some (.int (zch (wz w))), a7] [] M1 := by
  have hZ := hO.z
  have hd := hZ.dims
  obtain ⟨i1, i2, i3⟩ := imp_ch m hZ
  have hz0 := hZ.erAllN (zt (wz w)) (Nat.le_refl _)
  have hOt : WOK (wAct w (impZ m (wz w))) := hO.act ⟨i2, i3 hO.t⟩
  have hab : cA 2 (nI 5) (nI 0) (nI 0) (wAct w (impZ m (wz w))) = (iI (erAll (wz w) - (erAll (wz w) - erAll (impZ m (wz w)))), wAct w (impZ m (wz w))) := by
    rw [q_ab5]
    show (iI (erAll (impZ m (wz w))), _) = _
    rw [show erAll (wz w) - (erAll (wz w) - erAll (impZ m (wz w))) = erAll (impZ m (wz w)) by omega]
  have hac : cA 2 (nI 10) (nI 0) (nI 0) (wAct w (impZ m (wz w))) = (zch (wz w) + nI (impN m (wz w)), wAct w (impZ m (wz w))) := by
    rw [q_ab10]
    show (zch (impZ m (wz w)), _) = _
    rw [i1]
  have hle := impN_le m (wz w)
  refine r_aload0 (pc := 79) dL_improves_79 ?_
  refine n_bipush (pc := 80) 12 (by decide) dL_improves_80 ?_
  refine r_iload2 (pc := 82) dL_improves_82 ?_
  refine n_iconst_0 (pc := 83) dL_improves_83 ?_
  refine n_iconst_0 (pc := 84) dL_improves_84 ?_
  refine r_call5 (pc := 85) rfl rfl dL_improves_85 (s_do0 hT hO (by decide) (do_imp hm1 hm2)) (by decide) (Nat.le_of_ble_eq_true rfl) ⟨by decide, by decide⟩ (fun M9 h9 => ?_)
  obtain ⟨hT, hY⟩ := h9
  have hX : ∀ i, 328 ≤ i → M9 i = M i := fun i hi => (hY i hi).trans (hX i hi)
  clear hY
  refine r_iload3 (pc := 88) dL_improves_88 ?_
  refine r_icmp_ne (pc := 89) 159 (by decide) dL_improves_89 (fun h9 => absurd rfl h9) (fun _ => ?_)
  refine r_aload1 (pc := 92) dL_improves_92 ?_
  refine n_bipush (pc := 93) 12 (by decide) dL_improves_93 ?_
  refine r_iload2 (pc := 95) dL_improves_95 ?_
  refine n_iconst_0 (pc := 96) dL_improves_96 ?_
  refine n_iconst_0 (pc := 97) dL_improves_97 ?_
  refine r_call5 (pc := 98) rfl rfl dL_improves_98 (s_do1 hT hO (by decide) (do_imp hm1 hm2)) (by decide) (Nat.le_of_ble_eq_true rfl) ⟨by decide, by decide⟩ (fun M9 h9 => ?_)
  obtain ⟨hT, hY⟩ := h9
  have hX : ∀ i, 328 ≤ i → M9 i = M i := fun i hi => (hY i hi).trans (hX i hi)
  clear hY
  refine r_iload3 (pc := 101) dL_improves_101 ?_
  refine r_icmp_ne (pc := 102) 159 (by decide) dL_improves_102 (fun h9 => absurd rfl h9) (fun _ => ?_)
  refine r_aload0 (pc := 105) dL_improves_105 ?_
  refine n_iconst_2 (pc := 106) dL_improves_106 ?_
  refine n_iconst_5 (pc := 107) dL_improves_107 ?_
  refine n_iconst_0 (pc := 108) dL_improves_108 ?_
  refine n_iconst_0 (pc := 109) dL_improves_109 ?_
  refine r_call5 (pc := 110) rfl rfl dL_improves_110 (b_ask0 hT hOt (by decide) hab) (by decide) (Nat.le_of_ble_eq_true rfl) ⟨by decide, by decide⟩ (fun M9 h9 => ?_)
  obtain ⟨hT, hY⟩ := h9
  have hX : ∀ i, 328 ≤ i → M9 i = M i := fun i hi => (hY i hi).trans (hX i hi)
  clear hY
  refine r_iload5 (pc := 113) dL_improves_113 ?_
  refine r_iload3 (pc := 115) dL_improves_115 ?_
  first | refine n_isubI (pc := 116) dL_improves_116 ?_ | refine z_isub (pc := 116) dL_improves_116 ?_ | refine r_isub (pc := 116) dL_improves_116 ?_
  refine r_icmp_ne (pc := 117) 159 (by decide) dL_improves_117 (fun h9 => absurd rfl h9) (fun _ => ?_)
  refine r_aload0 (pc := 120) dL_improves_120 ?_
  refine n_iconst_2 (pc := 121) dL_improves_121 ?_
  refine n_bipush (pc := 122) 10 (by decide) dL_improves_122 ?_
  refine n_iconst_0 (pc := 124) dL_improves_124 ?_
  refine n_iconst_0 (pc := 125) dL_improves_125 ?_
  refine r_call5 (pc := 126) rfl rfl dL_improves_126 (b_ask0 hT hOt (by decide) hac) (by decide) (Nat.le_of_ble_eq_true rfl) ⟨by decide, by decide⟩ (fun M9 h9 => ?_)
  obtain ⟨hT, hY⟩ := h9
  have hX : ∀ i, 328 ≤ i → M9 i = M i := fun i hi => (hY i hi).trans (hX i hi)
  clear hY
  refine r_iload6 (pc := 129) dL_improves_129 ?_
  refine r_iload4 (pc := 131) dL_improves_131 ?_
  first | refine n_iadd (pc := 133) dL_improves_133 ?_ | refine z_iadd (pc := 133) dL_improves_133 ?_ | refine r_iadd (pc := 133) dL_improves_133 ?_
  refine r_icmp_ne (pc := 134) 159 (by decide) dL_improves_134 (fun h9 => absurd rfl h9) (fun _ => ?_)
  by_cases he : impN m (wz w) = m
  · refine r_iload4 (pc := 137) dL_improves_137 ?_
    refine r_iload2 (pc := 139) dL_improves_139 ?_
    refine n_icmp_eq (pc := 140) 155 (by decide) dL_improves_140 (by omega) (by omega) (fun hc140 => ?_) (fun hc140 => absurd hc140 (by omega))
    refine n_iconst_1 (pc := 155) dL_improves_155 ?_
    refine r_goto (pc := 156) 160 (by decide) dL_improves_156 ?_
    refine r_istore7 (pc := 160) dL_improves_160 rfl ?_
    refine r_iload7 (pc := 162) dL_improves_162 ?_
    refine n_if_eq (pc := 164) 228 (by decide) dL_improves_164 (by omega) (fun hc164 => absurd hc164 (by omega)) (fun hc164 => ?_)
    refine r_aload0 (pc := 167) dL_improves_167 ?_
    refine n_bipush (pc := 168) 13 (by decide) dL_improves_168 ?_
    refine n_iconst_0 (pc := 170) dL_improves_170 ?_
    refine n_iconst_0 (pc := 171) dL_improves_171 ?_
    refine n_iconst_0 (pc := 172) dL_improves_172 ?_
    refine r_call5 (pc := 173) rfl rfl dL_improves_173 (s_do0 hT hOt (by decide) (do_undo hO _)) (by decide) (Nat.le_of_ble_eq_true rfl) ⟨by decide, by decide⟩ (fun M9 h9 => ?_)
    obtain ⟨hT, hY⟩ := h9
    have hX : ∀ i, 328 ≤ i → M9 i = M i := fun i hi => (hY i hi).trans (hX i hi)
    clear hY
    refine r_callS1i (pc := 176) lk_L_221 dL_improves_176 (s_thrU hO) (by decide) (Nat.le_of_ble_eq_true rfl) ⟨by decide, by decide⟩ ?_
    refine n_if_ne (pc := 179) 228 (by decide) dL_improves_179 (by omega) (fun hc179 => absurd hc179 (by omega)) (fun hc179 => ?_)
    refine r_aload1 (pc := 182) dL_improves_182 ?_
    refine n_bipush (pc := 183) 13 (by decide) dL_improves_183 ?_
    refine n_iconst_0 (pc := 185) dL_improves_185 ?_
    refine n_iconst_0 (pc := 186) dL_improves_186 ?_
    refine n_iconst_0 (pc := 187) dL_improves_187 ?_
    refine r_call5 (pc := 188) rfl rfl dL_improves_188 (s_do1 hT hOt (by decide) (do_undo hO _)) (by decide) (Nat.le_of_ble_eq_true rfl) ⟨by decide, by decide⟩ (fun M9 h9 => ?_)
    obtain ⟨hT, hY⟩ := h9
    have hX : ∀ i, 328 ≤ i → M9 i = M i := fun i hi => (hY i hi).trans (hX i hi)
    clear hY
    refine r_callS1i (pc := 191) lk_L_221 dL_improves_191 (s_thrU hO) (by decide) (Nat.le_of_ble_eq_true rfl) ⟨by decide, by decide⟩ ?_
    refine n_if_ne (pc := 194) 228 (by decide) dL_improves_194 (by omega) (fun hc194 => absurd hc194 (by omega)) (fun hc194 => ?_)
    refine r_aload0 (pc := 197) dL_improves_197 ?_
    refine n_iconst_2 (pc := 198) dL_improves_198 ?_
    refine n_iconst_5 (pc := 199) dL_improves_199 ?_
    refine n_iconst_0 (pc := 200) dL_improves_200 ?_
    refine n_iconst_0 (pc := 201) dL_improves_201 ?_
    refine r_call5 (pc := 202) rfl rfl dL_improves_202 (b_ask0 hT (wBk_ok hO) (by decide) q_ab5) (by decide) (Nat.le_of_ble_eq_true rfl) ⟨by decide, by decide⟩ (fun M9 h9 => ?_)
    obtain ⟨hT, hY⟩ := h9
    have hX : ∀ i, 328 ≤ i → M9 i = M i := fun i hi => (hY i hi).trans (hX i hi)
    clear hY
    refine r_iload5 (pc := 205) dL_improves_205 ?_
    refine r_icmp_ne (pc := 207) 228 (by decide) dL_improves_207 (fun h9 => absurd rfl h9) (fun _ => ?_)
    refine r_aload0 (pc := 210) dL_improves_210 ?_
    refine n_iconst_2 (pc := 211) dL_improves_211 ?_
    refine n_bipush (pc := 212) 10 (by decide) dL_improves_212 ?_
    refine n_iconst_0 (pc := 214) dL_improves_214 ?_
    refine n_iconst_0 (pc := 215) dL_improves_215 ?_
    refine r_call5 (pc := 216) rfl rfl dL_improves_216 (b_ask0 hT (wBk_ok hO) (by decide) q_ab10) (by decide) (Nat.le_of_ble_eq_true rfl) ⟨by decide, by decide⟩ (fun M9 h9 => ?_)
    obtain ⟨hT, hY⟩ := h9
    have hX : ∀ i, 328 ≤ i → M9 i = M i := fun i hi => (hY i hi).trans (hX i hi)
    clear hY
    refine r_iload6 (pc := 219) dL_improves_219 ?_
    refine r_icmp_ne (pc := 221) 228 (by decide) dL_improves_221 (fun h9 => absurd rfl h9) (fun _ => ?_)
    refine n_iconst_1 (pc := 224) dL_improves_224 ?_
    refine r_goto (pc := 225) 229 (by decide) dL_improves_225 ?_
    exact p_ireturn (pc := 229) false rfl rfl (by decide) dL_improves_229 (by decide) (by decide) (Or.inl rfl) ⟨rfl, wBk w, wBk_ok hO, hT, hX⟩
  · have hb0 := imp_end m hZ (by omega)
    have hb1 : -100000 ≤ bG (bestZ (impZ m (wz w))) := by
      cases hb : bestZ (impZ m (wz w)) with
      | none => show (-100000 : Int) ≤ 0; omega
      | some q => exact (bestZ_ok i2 q hb).2.1
    have hbb : cA 15 (nI 1) (nI 0) (nI 0) (wAct w (impZ m (wz w))) = (iI (bG (bestZ (impZ m (wz w)))), wAct w (impZ m (wz w))) := q_best1
    refine r_iload4 (pc := 137) dL_improves_137 ?_
    refine r_iload2 (pc := 139) dL_improves_139 ?_
    refine n_icmp_eq (pc := 140) 155 (by decide) dL_improves_140 (by omega) (by omega) (fun hc140 => absurd hc140 (by omega)) (fun hc140 => ?_)
    refine r_aload0 (pc := 143) dL_improves_143 ?_
    refine n_bipush (pc := 144) 15 (by decide) dL_improves_144 ?_
    refine n_iconst_1 (pc := 146) dL_improves_146 ?_
    refine n_iconst_0 (pc := 147) dL_improves_147 ?_
    refine n_iconst_0 (pc := 148) dL_improves_148 ?_
    refine r_call5 (pc := 149) rfl rfl dL_improves_149 (b_ask0 hT hOt (by decide) hbb) (by decide) (Nat.le_of_ble_eq_true rfl) ⟨by decide, by decide⟩ (fun M9 h9 => ?_)
    obtain ⟨hT, hY⟩ := h9
    have hX : ∀ i, 328 ≤ i → M9 i = M i := fun i hi => (hY i hi).trans (hX i hi)
    clear hY
    refine z_if_gt (pc := 152) 159 (by decide) dL_improves_152 (by omega) (by omega) (fun hc152 => absurd hc152 (by omega)) (fun hc152 => ?_)
    refine n_iconst_1 (pc := 155) dL_improves_155 ?_
    refine r_goto (pc := 156) 160 (by decide) dL_improves_156 ?_
    refine r_istore7 (pc := 160) dL_improves_160 rfl ?_
    refine r_iload7 (pc := 162) dL_improves_162 ?_
    refine n_if_eq (pc := 164) 228 (by decide) dL_improves_164 (by omega) (fun hc164 => absurd hc164 (by omega)) (fun hc164 => ?_)
    refine r_aload0 (pc := 167) dL_improves_167 ?_
    refine n_bipush (pc := 168) 13 (by decide) dL_improves_168 ?_
    refine n_iconst_0 (pc := 170) dL_improves_170 ?_
    refine n_iconst_0 (pc := 171) dL_improves_171 ?_
    refine n_iconst_0 (pc := 172) dL_improves_172 ?_
    refine r_call5 (pc := 173) rfl rfl dL_improves_173 (s_do0 hT hOt (by decide) (do_undo hO _)) (by decide) (Nat.le_of_ble_eq_true rfl) ⟨by decide, by decide⟩ (fun M9 h9 => ?_)
    obtain ⟨hT, hY⟩ := h9
    have hX : ∀ i, 328 ≤ i → M9 i = M i := fun i hi => (hY i hi).trans (hX i hi)
    clear hY
    refine r_callS1i (pc := 176) lk_L_221 dL_improves_176 (s_thrU hO) (by decide) (Nat.le_of_ble_eq_true rfl) ⟨by decide, by decide⟩ ?_
    refine n_if_ne (pc := 179) 228 (by decide) dL_improves_179 (by omega) (fun hc179 => absurd hc179 (by omega)) (fun hc179 => ?_)
    refine r_aload1 (pc := 182) dL_improves_182 ?_
    refine n_bipush (pc := 183) 13 (by decide) dL_improves_183 ?_
    refine n_iconst_0 (pc := 185) dL_improves_185 ?_
    refine n_iconst_0 (pc := 186) dL_improves_186 ?_
    refine n_iconst_0 (pc := 187) dL_improves_187 ?_
    refine r_call5 (pc := 188) rfl rfl dL_improves_188 (s_do1 hT hOt (by decide) (do_undo hO _)) (by decide) (Nat.le_of_ble_eq_true rfl) ⟨by decide, by decide⟩ (fun M9 h9 => ?_)
    obtain ⟨hT, hY⟩ := h9
    have hX : ∀ i, 328 ≤ i → M9 i = M i := fun i hi => (hY i hi).trans (hX i hi)
    clear hY
    refine r_callS1i (pc := 191) lk_L_221 dL_improves_191 (s_thrU hO) (by decide) (Nat.le_of_ble_eq_true rfl) ⟨by decide, by decide⟩ ?_
    refine n_if_ne (pc := 194) 228 (by decide) dL_improves_194 (by omega) (fun hc194 => absurd hc194 (by omega)) (fun hc194 => ?_)
    refine r_aload0 (pc := 197) dL_improves_197 ?_
    refine n_iconst_2 (pc := 198) dL_improves_198 ?_
    refine n_iconst_5 (pc := 199) dL_improves_199 ?_
    refine n_iconst_0 (pc := 200) dL_improves_200 ?_
    refine n_iconst_0 (pc := 201) dL_improves_201 ?_
    refine r_call5 (pc := 202) rfl rfl dL_improves_202 (b_ask0 hT (wBk_ok hO) (by decide) q_ab5) (by decide) (Nat.le_of_ble_eq_true rfl) ⟨by decide, by decide⟩ (fun M9 h9 => ?_)
    obtain ⟨hT, hY⟩ := h9
    have hX : ∀ i, 328 ≤ i → M9 i = M i := fun i hi => (hY i hi).trans (hX i hi)
    clear hY
    refine r_iload5 (pc := 205) dL_improves_205 ?_
    refine r_icmp_ne (pc := 207) 228 (by decide) dL_improves_207 (fun h9 => absurd rfl h9) (fun _ => ?_)
    refine r_aload0 (pc := 210) dL_improves_210 ?_
    refine n_iconst_2 (pc := 211) dL_improves_211 ?_
    refine n_bipush (pc := 212) 10 (by decide) dL_improves_212 ?_
    refine n_iconst_0 (pc := 214) dL_improves_214 ?_
    refine n_iconst_0 (pc := 215) dL_improves_215 ?_
    refine r_call5 (pc := 216) rfl rfl dL_improves_216 (b_ask0 hT (wBk_ok hO) (by decide) q_ab10) (by decide) (Nat.le_of_ble_eq_true rfl) ⟨by decide, by decide⟩ (fun M9 h9 => ?_)
    obtain ⟨hT, hY⟩ := h9
    have hX : ∀ i, 328 ≤ i → M9 i = M i := fun i hi => (hY i hi).trans (hX i hi)
    clear hY
    refine r_iload6 (pc := 219) dL_improves_219 ?_
    refine r_icmp_ne (pc := 221) 228 (by decide) dL_improves_221 (fun h9 => absurd rfl h9) (fun _ => ?_)
    refine n_iconst_1 (pc := 224) dL_improves_224 ?_
    refine r_goto (pc := 225) 229 (by decide) dL_improves_225 ?_
    exact p_ireturn (pc := 229) false rfl rfl (by decide) dL_improves_229 (by decide) (by decide) (Or.inl rfl) ⟨rfl, wBk w, wBk_ok hO, hT, hX⟩
set_option maxRecDepth 20000 in
theorem s_improves (hT : TW M (W2 w w)) (hO : WOK w) {m : Nat} (hm1 : 1 ≤ m) (hm2 : m ≤ 20) : SpecP mL_improves 11 20 120 [.ref 0, .ref 164, .int (nI m)] M (tE M) := by
  have hZ := hO.z
  have hd := hZ.dims
  have hX : ∀ i, 328 ≤ i → M i = M i := fun _ _ => rfl
  have hz0 := hZ.erAllN (zt (wz w)) (Nat.le_refl _)
  obtain ⟨i1, i2, i3⟩ := imp_ch m hZ
  have hz1 := i2.erAllN (zt (impZ m (wz w))) (Nat.le_refl _)
  have hz0 : 0 ≤ erAll (wz w) ∧ erAll (wz w) ≤ 1097712 := hz0
  have hz1 : 0 ≤ erAll (impZ m (wz w)) ∧ erAll (impZ m (wz w)) ≤ 1097712 := hz1
  have hil := imp_le m hZ
  have hip := imp_pos m hZ
  have hle := impN_le m (wz w)
  refine Spec_of [some (.ref 0), some (.ref 164), some (.int (nI m)), none, none, none, none, none] (by decide) (Nat.le_of_ble_eq_true rfl) rfl ?_
  refine r_aload0 (pc := 0) dL_improves_0 ?_
  refine n_bipush (pc := 1) 16 (by decide) dL_improves_1 ?_
  refine r_iload2 (pc := 3) dL_improves_3 ?_
  refine n_iconst_0 (pc := 4) dL_improves_4 ?_
  refine n_iconst_0 (pc := 5) dL_improves_5 ?_
  refine r_call5 (pc := 6) rfl rfl dL_improves_6 (b_ask0 hT hO (by decide) (q_if0 hm1 hm2)) (by decide) (Nat.le_of_ble_eq_true rfl) ⟨by decide, by decide⟩ (fun M9 h9 => ?_)
  obtain ⟨hT, hY⟩ := h9
  have hX : ∀ i, 328 ≤ i → M9 i = M i := fun i hi => (hY i hi).trans (hX i hi)
  clear hY
  refine r_istore3 (pc := 9) dL_improves_9 rfl ?_
  refine r_aload0 (pc := 10) dL_improves_10 ?_
  refine n_bipush (pc := 11) 16 (by decide) dL_improves_11 ?_
  refine r_iload2 (pc := 13) dL_improves_13 ?_
  refine n_iconst_1 (pc := 14) dL_improves_14 ?_
  refine n_iconst_0 (pc := 15) dL_improves_15 ?_
  refine r_call5 (pc := 16) rfl rfl dL_improves_16 (b_ask0 hT hO (by decide) (q_if1 hm1 hm2)) (by decide) (Nat.le_of_ble_eq_true rfl) ⟨by decide, by decide⟩ (fun M9 h9 => ?_)
  obtain ⟨hT, hY⟩ := h9
  have hX : ∀ i, 328 ≤ i → M9 i = M i := fun i hi => (hY i hi).trans (hX i hi)
  clear hY
  refine r_istore4 (pc := 19) dL_improves_19 rfl ?_
  refine r_aload0 (pc := 21) dL_improves_21 ?_
  refine n_iconst_2 (pc := 22) dL_improves_22 ?_
  refine n_iconst_5 (pc := 23) dL_improves_23 ?_
  refine n_iconst_0 (pc := 24) dL_improves_24 ?_
  refine n_iconst_0 (pc := 25) dL_improves_25 ?_
  refine r_call5 (pc := 26) rfl rfl dL_improves_26 (b_ask0 hT hO (by decide) q_ab5) (by decide) (Nat.le_of_ble_eq_true rfl) ⟨by decide, by decide⟩ (fun M9 h9 => ?_)
  obtain ⟨hT, hY⟩ := h9
  have hX : ∀ i, 328 ≤ i → M9 i = M i := fun i hi => (hY i hi).trans (hX i hi)
  clear hY
  refine r_istore5 (pc := 29) dL_improves_29 rfl ?_
  refine r_aload0 (pc := 31) dL_improves_31 ?_
  refine n_iconst_2 (pc := 32) dL_improves_32 ?_
  refine n_bipush (pc := 33) 10 (by decide) dL_improves_33 ?_
  refine n_iconst_0 (pc := 35) dL_improves_35 ?_
  refine n_iconst_0 (pc := 36) dL_improves_36 ?_
  refine r_call5 (pc := 37) rfl rfl dL_improves_37 (b_ask0 hT hO (by decide) q_ab10) (by decide) (Nat.le_of_ble_eq_true rfl) ⟨by decide, by decide⟩ (fun M9 h9 => ?_)
  obtain ⟨hT, hY⟩ := h9
  have hX : ∀ i, 328 ≤ i → M9 i = M i := fun i hi => (hY i hi).trans (hX i hi)
  clear hY
  refine r_istore6 (pc := 40) dL_improves_40 rfl ?_
  refine r_iload3 (pc := 42) dL_improves_42 ?_
  refine z_if_lt (pc := 43) 159 (by decide) dL_improves_43 (by omega) (by omega) (fun hc43 => absurd hc43 (by omega)) (fun hc43 => ?_)
  refine r_iload4 (pc := 46) dL_improves_46 ?_
  refine n_if_lt (pc := 48) 159 (by decide) dL_improves_48 (by omega) ?_
  refine r_iload4 (pc := 51) dL_improves_51 ?_
  refine r_iload2 (pc := 53) dL_improves_53 ?_
  refine n_icmp_gt (pc := 54) 159 (by decide) dL_improves_54 (by omega) (by omega) (fun hc54 => absurd hc54 (by omega)) (fun hc54 => ?_)
  by_cases hp : 0 < erAll (wz w) - erAll (impZ m (wz w))
  · have hq := hip.mp hp
    refine r_iload3 (pc := 57) dL_improves_57 ?_
    refine z_if_le (pc := 58) 65 (by decide) dL_improves_58 (by omega) (by omega) (fun hc58 => absurd hc58 (by omega)) (fun hc58 => ?_)
    refine n_iconst_1 (pc := 61) dL_improves_61 ?_
    refine r_goto (pc := 62) 66 (by decide) dL_improves_62 ?_
    refine r_iload4 (pc := 66) dL_improves_66 ?_
    refine n_if_le (pc := 68) 75 (by decide) dL_improves_68 (by omega) (fun hc68 => absurd hc68 (by omega)) (fun hc68 => ?_)
    refine n_iconst_1 (pc := 71) dL_improves_71 ?_
    refine r_goto (pc := 72) 76 (by decide) dL_improves_72 ?_
    refine r_icmp_ne (pc := 76) 159 (by decide) dL_improves_76 (fun h9 => absurd rfl h9) (fun _ => ?_)
    refine G_widen rfl (show _ ≤ 4 by decide) (show _ ≤ 24 by decide) ?_
    exact s_improves2 hT hO hX hm1 hm2
  · have hq : ¬ 0 < impN m (wz w) := fun q => hp (hip.mpr q)
    refine r_iload3 (pc := 57) dL_improves_57 ?_
    refine z_if_le (pc := 58) 65 (by decide) dL_improves_58 (by omega) (by omega) (fun hc58 => ?_) (fun hc58 => absurd hc58 (by omega))
    refine n_iconst_0 (pc := 65) dL_improves_65 ?_
    refine r_iload4 (pc := 66) dL_improves_66 ?_
    refine n_if_le (pc := 68) 75 (by decide) dL_improves_68 (by omega) (fun hc68 => ?_) (fun hc68 => absurd hc68 (by omega))
    refine n_iconst_0 (pc := 75) dL_improves_75 ?_
    refine r_icmp_ne (pc := 76) 159 (by decide) dL_improves_76 (fun h9 => absurd rfl h9) (fun _ => ?_)
    refine G_widen rfl (show _ ≤ 4 by decide) (show _ ≤ 24 by decide) ?_
    exact s_improves2 hT hO hX hm1 hm2
end CHG

set_option maxHeartbeats 4000000 in
set_option maxRecDepth 100000 in
theorem mi_1 {p : Program} {l : Launch} {e : Env} {R : Room} {s : State} {m : MethodId} {args : Array Value} {below : List Frame} {meth : Method} {c : Code} {H : Heap} {locs : List Loc} {cells slots : Nat} {Q : State → Prop} {ls : Array Slot} {D : va_G} {A : Nat → Prop} {tys : List (ClassId × FieldType)} {H0 : Heap} {h0 : Nat} {fs : List Value} {wr : va_W} {qh q2 q7 q8 q9 q10 : Nat} {k0 : Cond} {cl : List vw_C} {ci : Nat}
    (hx : p.tables.exec = Jvm.exec) (hb : c.code = cX13_init) (hts : ∀ w ∈ k0 :: wP, w.before args s = true) (hown : s.vm.findClass RX13 = some m.cls) (hin2 : meth.name = "<init>") (hao : (Cond.arrayOver (.array .int)).before args s = true) (hc : cl[ci]? = some (RX13, TX13, 180)) (hl : lv_has ls 1 [(0, .ref h0)]) (hK : va_K D cl tys s) (hJ : kJ 180 (mL qh q2 q7 q8 q9 q10) fs) (hP : va_P D cl ((h0, .inr (ci, fs)) :: wr) H) (hD : va_D A ((h0, .inr (ci, fs)) :: wr)) (hS : va_S A H0 H locs)
    (hrc : cells + 18 ≤ R.cells) (hrs : slots + 190104 ≤ R.slots)
    (kk : ∀ (H1 : Heap) (locs1 : List Loc) (fs1 : List Value), kJ 180 (mL qh q2 q7 q8 q9 q10) fs1 → va_P D cl ((h0, .inr (ci, fs1)) :: wr) H1 → va_D A ((h0, .inr (ci, fs1)) :: wr) → va_S A H0 H1 locs1 → W p l e R s m args below meth c H1 locs1 (cells + 18) (slots + 190104) Q (F0 m 612 ls [])) : W p l e R s m args below meth c H locs cells slots Q (F0 m 450 ls []) := by
  refine lv_aload_n hx hb dX13_init_450 rfl (lv_at hl 0 rfl) ?_
  refine lv_sipush (v := 6001) hx hb dX13_init_451 (by decide) ?_
  refine k_arrF hts iX13 tyX13 tyX13_ok nmX13 hx hb hown hin2 hK hc hJ hP hD hS (hts _ (bP 7 rfl)) 14 (by decide) (by decide) rfl (hts _ (bP 16 rfl)) rfl rfl (ty := .int) (by decide +kernel) (N' := 6001) (by decide) (by decide) (by decide) (by omega) (by omega) dX13_init_454 dX13_init_456 (fun H locs fs hJ hP hD hS => ?_)
  refine lv_aload_n hx hb dX13_init_459 rfl (lv_at hl 0 rfl) ?_
  refine lv_sipush (v := 6001) hx hb dX13_init_460 (by decide) ?_
  refine k_arrF hts iX13 tyX13 tyX13_ok nmX13 hx hb hown hin2 hK hc hJ hP hD hS (hts _ (bP 7 rfl)) 15 (by decide) (by decide) rfl (hts _ (bP 17 rfl)) rfl rfl (ty := .int) (by decide +kernel) (N' := 6001) (by decide) (by decide) (by decide) (by omega) (by omega) dX13_init_463 dX13_init_465 (fun H locs fs hJ hP hD hS => ?_)
  refine lv_aload_n hx hb dX13_init_468 rfl (lv_at hl 0 rfl) ?_
  refine lv_sipush (v := 6000) hx hb dX13_init_469 (by decide) ?_
  refine k_arrF hts iX13 tyX13 tyX13_ok nmX13 hx hb hown hin2 hK hc hJ hP hD hS (hts _ (bP 7 rfl)) 16 (by decide) (by decide) rfl (hts _ (bP 18 rfl)) rfl rfl (ty := .int) (by decide +kernel) (N' := 6000) (by decide) (by decide) (by decide) (by omega) (by omega) dX13_init_472 dX13_init_474 (fun H locs fs hJ hP hD hS => ?_)
  refine lv_aload_n hx hb dX13_init_477 rfl (lv_at hl 0 rfl) ?_
  refine lv_sipush (v := 3001) hx hb dX13_init_478 (by decide) ?_
  refine k_arrF hts iX13 tyX13 tyX13_ok nmX13 hx hb hown hin2 hK hc hJ hP hD hS (hts _ (bP 7 rfl)) 19 (by decide) (by decide) rfl (hts _ (bP 19 rfl)) rfl rfl (ty := .int) (by decide +kernel) (N' := 3001) (by decide) (by decide) (by decide) (by omega) (by omega) dX13_init_481 dX13_init_483 (fun H locs fs hJ hP hD hS => ?_)
  refine lv_aload_n hx hb dX13_init_486 rfl (lv_at hl 0 rfl) ?_
  refine lv_sipush (v := 3001) hx hb dX13_init_487 (by decide) ?_
  refine k_arrF hts iX13 tyX13 tyX13_ok nmX13 hx hb hown hin2 hK hc hJ hP hD hS (hts _ (bP 7 rfl)) 20 (by decide) (by decide) rfl (hts _ (bP 20 rfl)) rfl rfl (ty := .int) (by decide +kernel) (N' := 3001) (by decide) (by decide) (by decide) (by omega) (by omega) dX13_init_490 dX13_init_492 (fun H locs fs hJ hP hD hS => ?_)
  refine lv_aload_n hx hb dX13_init_495 rfl (lv_at hl 0 rfl) ?_
  refine lv_sipush (v := 6000) hx hb dX13_init_496 (by decide) ?_
  refine k_arrF hts iX13 tyX13 tyX13_ok nmX13 hx hb hown hin2 hK hc hJ hP hD hS (hts _ (bP 7 rfl)) 21 (by decide) (by decide) rfl (hts _ (bP 21 rfl)) rfl rfl (ty := .int) (by decide +kernel) (N' := 6000) (by decide) (by decide) (by decide) (by omega) (by omega) dX13_init_499 dX13_init_501 (fun H locs fs hJ hP hD hS => ?_)
  refine lv_aload_n hx hb dX13_init_504 rfl (lv_at hl 0 rfl) ?_
  refine lv_sipush (v := 14000) hx hb dX13_init_505 (by decide) ?_
  refine k_arrF hts iX13 tyX13 tyX13_ok nmX13 hx hb hown hin2 hK hc hJ hP hD hS (hts _ (bP 7 rfl)) 26 (by decide) (by decide) rfl (hts _ (bP 22 rfl)) rfl rfl (ty := .int) (by decide +kernel) (N' := 14000) (by decide) (by decide) (by decide) (by omega) (by omega) dX13_init_508 dX13_init_510 (fun H locs fs hJ hP hD hS => ?_)
  refine lv_aload_n hx hb dX13_init_513 rfl (lv_at hl 0 rfl) ?_
  refine lv_sipush (v := 14000) hx hb dX13_init_514 (by decide) ?_
  refine k_arrF hts iX13 tyX13 tyX13_ok nmX13 hx hb hown hin2 hK hc hJ hP hD hS (hts _ (bP 7 rfl)) 27 (by decide) (by decide) rfl (hts _ (bP 23 rfl)) rfl rfl (ty := .int) (by decide +kernel) (N' := 14000) (by decide) (by decide) (by decide) (by omega) (by omega) dX13_init_517 dX13_init_519 (fun H locs fs hJ hP hD hS => ?_)
  refine lv_aload_n hx hb dX13_init_522 rfl (lv_at hl 0 rfl) ?_
  refine lv_sipush (v := 14000) hx hb dX13_init_523 (by decide) ?_
  refine k_arrF hts iX13 tyX13 tyX13_ok nmX13 hx hb hown hin2 hK hc hJ hP hD hS (hts _ (bP 7 rfl)) 28 (by decide) (by decide) rfl (hts _ (bP 24 rfl)) rfl rfl (ty := .int) (by decide +kernel) (N' := 14000) (by decide) (by decide) (by decide) (by omega) (by omega) dX13_init_526 dX13_init_528 (fun H locs fs hJ hP hD hS => ?_)
  refine lv_aload_n hx hb dX13_init_531 rfl (lv_at hl 0 rfl) ?_
  refine lv_sipush (v := 14000) hx hb dX13_init_532 (by decide) ?_
  refine k_arrF hts iX13 tyX13 tyX13_ok nmX13 hx hb hown hin2 hK hc hJ hP hD hS (hts _ (bP 7 rfl)) 29 (by decide) (by decide) rfl (hts _ (bP 25 rfl)) rfl rfl (ty := .int) (by decide +kernel) (N' := 14000) (by decide) (by decide) (by decide) (by omega) (by omega) dX13_init_535 dX13_init_537 (fun H locs fs hJ hP hD hS => ?_)
  refine lv_aload_n hx hb dX13_init_540 rfl (lv_at hl 0 rfl) ?_
  refine lv_sipush (v := 14000) hx hb dX13_init_541 (by decide) ?_
  refine k_arrF hts iX13 tyX13 tyX13_ok nmX13 hx hb hown hin2 hK hc hJ hP hD hS (hts _ (bP 7 rfl)) 30 (by decide) (by decide) rfl (hts _ (bP 26 rfl)) rfl rfl (ty := .int) (by decide +kernel) (N' := 14000) (by decide) (by decide) (by decide) (by omega) (by omega) dX13_init_544 dX13_init_546 (fun H locs fs hJ hP hD hS => ?_)
  refine lv_aload_n hx hb dX13_init_549 rfl (lv_at hl 0 rfl) ?_
  refine lv_sipush (v := 14000) hx hb dX13_init_550 (by decide) ?_
  refine k_arrF hts iX13 tyX13 tyX13_ok nmX13 hx hb hown hin2 hK hc hJ hP hD hS (hts _ (bP 7 rfl)) 31 (by decide) (by decide) rfl (hts _ (bP 27 rfl)) rfl rfl (ty := .int) (by decide +kernel) (N' := 14000) (by decide) (by decide) (by decide) (by omega) (by omega) dX13_init_553 dX13_init_555 (fun H locs fs hJ hP hD hS => ?_)
  refine lv_aload_n hx hb dX13_init_558 rfl (lv_at hl 0 rfl) ?_
  refine lv_sipush (v := 14000) hx hb dX13_init_559 (by decide) ?_
  refine k_arrF hts iX13 tyX13 tyX13_ok nmX13 hx hb hown hin2 hK hc hJ hP hD hS (hts _ (bP 7 rfl)) 32 (by decide) (by decide) rfl (hts _ (bP 28 rfl)) rfl rfl (ty := .int) (by decide +kernel) (N' := 14000) (by decide) (by decide) (by decide) (by omega) (by omega) dX13_init_562 dX13_init_564 (fun H locs fs hJ hP hD hS => ?_)
  refine lv_aload_n hx hb dX13_init_567 rfl (lv_at hl 0 rfl) ?_
  refine lv_sipush (v := 14000) hx hb dX13_init_568 (by decide) ?_
  refine k_arrF hts iX13 tyX13 tyX13_ok nmX13 hx hb hown hin2 hK hc hJ hP hD hS (hts _ (bP 7 rfl)) 33 (by decide) (by decide) rfl (hts _ (bP 29 rfl)) rfl rfl (ty := .int) (by decide +kernel) (N' := 14000) (by decide) (by decide) (by decide) (by omega) (by omega) dX13_init_571 dX13_init_573 (fun H locs fs hJ hP hD hS => ?_)
  refine lv_aload_n hx hb dX13_init_576 rfl (lv_at hl 0 rfl) ?_
  refine lv_sipush (v := 14000) hx hb dX13_init_577 (by decide) ?_
  refine k_arrF hts iX13 tyX13 tyX13_ok nmX13 hx hb hown hin2 hK hc hJ hP hD hS (hts _ (bP 7 rfl)) 34 (by decide) (by decide) rfl (hts _ (bP 30 rfl)) rfl rfl (ty := .int) (by decide +kernel) (N' := 14000) (by decide) (by decide) (by decide) (by omega) (by omega) dX13_init_580 dX13_init_582 (fun H locs fs hJ hP hD hS => ?_)
  refine lv_aload_n hx hb dX13_init_585 rfl (lv_at hl 0 rfl) ?_
  refine lv_sipush (v := 14000) hx hb dX13_init_586 (by decide) ?_
  refine k_arrF hts iX13 tyX13 tyX13_ok nmX13 hx hb hown hin2 hK hc hJ hP hD hS (hts _ (bP 7 rfl)) 41 (by decide) (by decide) rfl (hts _ (bP 31 rfl)) rfl rfl (ty := .int) (by decide +kernel) (N' := 14000) (by decide) (by decide) (by decide) (by omega) (by omega) dX13_init_589 dX13_init_591 (fun H locs fs hJ hP hD hS => ?_)
  refine lv_aload_n hx hb dX13_init_594 rfl (lv_at hl 0 rfl) ?_
  refine lv_sipush (v := 14000) hx hb dX13_init_595 (by decide) ?_
  refine k_arrF hts iX13 tyX13 tyX13_ok nmX13 hx hb hown hin2 hK hc hJ hP hD hS (hts _ (bP 7 rfl)) 42 (by decide) (by decide) rfl (hts _ (bP 32 rfl)) rfl rfl (ty := .int) (by decide +kernel) (N' := 14000) (by decide) (by decide) (by decide) (by omega) (by omega) dX13_init_598 dX13_init_600 (fun H locs fs hJ hP hD hS => ?_)
  refine lv_aload_n hx hb dX13_init_603 rfl (lv_at hl 0 rfl) ?_
  refine lv_sipush (v := 6100) hx hb dX13_init_604 (by decide) ?_
  refine k_arrF hts iX13 tyX13 tyX13_ok nmX13 hx hb hown hin2 hK hc hJ hP hD hS (hts _ (bP 7 rfl)) 45 (by decide) (by decide) rfl (hts _ (bP 33 rfl)) rfl rfl (ty := .int) (by decide +kernel) (N' := 6100) (by decide) (by decide) (by decide) (by omega) (by omega) dX13_init_607 dX13_init_609 (fun H locs fs hJ hP hD hS => ?_)
  refine W.widen (k := cells + 18) (n := slots + 190104) (by omega) (by omega) ?_
  exact kk H locs fs hJ hP hD hS
set_option maxHeartbeats 4000000 in
set_option maxRecDepth 100000 in
theorem mi_2 {p : Program} {l : Launch} {e : Env} {R : Room} {s : State} {m : MethodId} {args : Array Value} {below : List Frame} {meth : Method} {c : Code} {H : Heap} {locs : List Loc} {cells slots : Nat} {Q : State → Prop} {ls : Array Slot} {D : va_G} {A : Nat → Prop} {tys : List (ClassId × FieldType)} {H0 : Heap} {h0 : Nat} {fs : List Value} {wr : va_W} {qh q2 q7 q8 q9 q10 : Nat} {k0 : Cond} {cl : List vw_C} {ci : Nat}
    (hx : p.tables.exec = Jvm.exec) (hb : c.code = cX13_init) (hts : ∀ w ∈ k0 :: wP, w.before args s = true) (hown : s.vm.findClass RX13 = some m.cls) (hin2 : meth.name = "<init>") (hao : (Cond.arrayOver (.array .int)).before args s = true) (hc : cl[ci]? = some (RX13, TX13, 180)) (hl : lv_has ls 1 [(0, .ref h0)]) (hK : va_K D cl tys s) (hJ : kJ 180 (mL qh q2 q7 q8 q9 q10) fs) (hP : va_P D cl ((h0, .inr (ci, fs)) :: wr) H) (hD : va_D A ((h0, .inr (ci, fs)) :: wr)) (hS : va_S A H0 H locs)
    (hrc : cells + 18 ≤ R.cells) (hrs : slots + 133500 ≤ R.slots)
    (kk : ∀ (H1 : Heap) (locs1 : List Loc) (fs1 : List Value), kJ 180 (mL qh q2 q7 q8 q9 q10) fs1 → va_P D cl ((h0, .inr (ci, fs1)) :: wr) H1 → va_D A ((h0, .inr (ci, fs1)) :: wr) → va_S A H0 H1 locs1 → W p l e R s m args below meth c H1 locs1 (cells + 18) (slots + 133500) Q (F0 m 774 ls [])) : W p l e R s m args below meth c H locs cells slots Q (F0 m 612 ls []) := by
  refine lv_aload_n hx hb dX13_init_612 rfl (lv_at hl 0 rfl) ?_
  refine lv_sipush (v := 6100) hx hb dX13_init_613 (by decide) ?_
  refine k_arrF hts iX13 tyX13 tyX13_ok nmX13 hx hb hown hin2 hK hc hJ hP hD hS (hts _ (bP 7 rfl)) 46 (by decide) (by decide) rfl (hts _ (bP 34 rfl)) rfl rfl (ty := .int) (by decide +kernel) (N' := 6100) (by decide) (by decide) (by decide) (by omega) (by omega) dX13_init_616 dX13_init_618 (fun H locs fs hJ hP hD hS => ?_)
  refine lv_aload_n hx hb dX13_init_621 rfl (lv_at hl 0 rfl) ?_
  refine lv_sipush (v := 6100) hx hb dX13_init_622 (by decide) ?_
  refine k_arrF hts iX13 tyX13 tyX13_ok nmX13 hx hb hown hin2 hK hc hJ hP hD hS (hts _ (bP 7 rfl)) 47 (by decide) (by decide) rfl (hts _ (bP 35 rfl)) rfl rfl (ty := .int) (by decide +kernel) (N' := 6100) (by decide) (by decide) (by decide) (by omega) (by omega) dX13_init_625 dX13_init_627 (fun H locs fs hJ hP hD hS => ?_)
  refine lv_aload_n hx hb dX13_init_630 rfl (lv_at hl 0 rfl) ?_
  refine lv_sipush (v := 6100) hx hb dX13_init_631 (by decide) ?_
  refine k_arrF hts iX13 tyX13 tyX13_ok nmX13 hx hb hown hin2 hK hc hJ hP hD hS (hts _ (bP 7 rfl)) 48 (by decide) (by decide) rfl (hts _ (bP 36 rfl)) rfl rfl (ty := .int) (by decide +kernel) (N' := 6100) (by decide) (by decide) (by decide) (by omega) (by omega) dX13_init_634 dX13_init_636 (fun H locs fs hJ hP hD hS => ?_)
  refine lv_aload_n hx hb dX13_init_639 rfl (lv_at hl 0 rfl) ?_
  refine lv_sipush (v := 6100) hx hb dX13_init_640 (by decide) ?_
  refine k_arrF hts iX13 tyX13 tyX13_ok nmX13 hx hb hown hin2 hK hc hJ hP hD hS (hts _ (bP 7 rfl)) 49 (by decide) (by decide) rfl (hts _ (bP 37 rfl)) rfl rfl (ty := .int) (by decide +kernel) (N' := 6100) (by decide) (by decide) (by decide) (by omega) (by omega) dX13_init_643 dX13_init_645 (fun H locs fs hJ hP hD hS => ?_)
  refine lv_aload_n hx hb dX13_init_648 rfl (lv_at hl 0 rfl) ?_
  refine lv_sipush (v := 6100) hx hb dX13_init_649 (by decide) ?_
  refine k_arrF hts iX13 tyX13 tyX13_ok nmX13 hx hb hown hin2 hK hc hJ hP hD hS (hts _ (bP 7 rfl)) 50 (by decide) (by decide) rfl (hts _ (bP 38 rfl)) rfl rfl (ty := .int) (by decide +kernel) (N' := 6100) (by decide) (by decide) (by decide) (by omega) (by omega) dX13_init_652 dX13_init_654 (fun H locs fs hJ hP hD hS => ?_)
  refine lv_aload_n hx hb dX13_init_657 rfl (lv_at hl 0 rfl) ?_
  refine lv_sipush (v := 6100) hx hb dX13_init_658 (by decide) ?_
  refine k_arrF hts iX13 tyX13 tyX13_ok nmX13 hx hb hown hin2 hK hc hJ hP hD hS (hts _ (bP 7 rfl)) 51 (by decide) (by decide) rfl (hts _ (bP 39 rfl)) rfl rfl (ty := .int) (by decide +kernel) (N' := 6100) (by decide) (by decide) (by decide) (by omega) (by omega) dX13_init_661 dX13_init_663 (fun H locs fs hJ hP hD hS => ?_)
  refine lv_aload_n hx hb dX13_init_666 rfl (lv_at hl 0 rfl) ?_
  refine lv_sipush (v := 6100) hx hb dX13_init_667 (by decide) ?_
  refine k_arrF hts iX13 tyX13 tyX13_ok nmX13 hx hb hown hin2 hK hc hJ hP hD hS (hts _ (bP 7 rfl)) 52 (by decide) (by decide) rfl (hts _ (bP 40 rfl)) rfl rfl (ty := .int) (by decide +kernel) (N' := 6100) (by decide) (by decide) (by decide) (by omega) (by omega) dX13_init_670 dX13_init_672 (fun H locs fs hJ hP hD hS => ?_)
  refine lv_aload_n hx hb dX13_init_675 rfl (lv_at hl 0 rfl) ?_
  refine lv_sipush (v := 6100) hx hb dX13_init_676 (by decide) ?_
  refine k_arrF hts iX13 tyX13 tyX13_ok nmX13 hx hb hown hin2 hK hc hJ hP hD hS (hts _ (bP 41 rfl)) 53 (by decide) (by decide) rfl (hts _ (bP 42 rfl)) rfl rfl (ty := .boolean) (by decide +kernel) (N' := 6100) (by decide) (by decide) (by decide) (by omega) (by omega) dX13_init_679 dX13_init_681 (fun H locs fs hJ hP hD hS => ?_)
  refine lv_aload_n hx hb dX13_init_684 rfl (lv_at hl 0 rfl) ?_
  refine lv_sipush (v := 6100) hx hb dX13_init_685 (by decide) ?_
  refine k_arrF hts iX13 tyX13 tyX13_ok nmX13 hx hb hown hin2 hK hc hJ hP hD hS (hts _ (bP 7 rfl)) 54 (by decide) (by decide) rfl (hts _ (bP 43 rfl)) rfl rfl (ty := .int) (by decide +kernel) (N' := 6100) (by decide) (by decide) (by decide) (by omega) (by omega) dX13_init_688 dX13_init_690 (fun H locs fs hJ hP hD hS => ?_)
  refine lv_aload_n hx hb dX13_init_693 rfl (lv_at hl 0 rfl) ?_
  refine lv_sipush (v := 6100) hx hb dX13_init_694 (by decide) ?_
  refine k_arrF hts iX13 tyX13 tyX13_ok nmX13 hx hb hown hin2 hK hc hJ hP hD hS (hts _ (bP 7 rfl)) 55 (by decide) (by decide) rfl (hts _ (bP 44 rfl)) rfl rfl (ty := .int) (by decide +kernel) (N' := 6100) (by decide) (by decide) (by decide) (by omega) (by omega) dX13_init_697 dX13_init_699 (fun H locs fs hJ hP hD hS => ?_)
  refine lv_aload_n hx hb dX13_init_702 rfl (lv_at hl 0 rfl) ?_
  refine lv_sipush (v := 6100) hx hb dX13_init_703 (by decide) ?_
  refine k_arrF hts iX13 tyX13 tyX13_ok nmX13 hx hb hown hin2 hK hc hJ hP hD hS (hts _ (bP 7 rfl)) 57 (by decide) (by decide) rfl (hts _ (bP 45 rfl)) rfl rfl (ty := .int) (by decide +kernel) (N' := 6100) (by decide) (by decide) (by decide) (by omega) (by omega) dX13_init_706 dX13_init_708 (fun H locs fs hJ hP hD hS => ?_)
  refine lv_aload_n hx hb dX13_init_711 rfl (lv_at hl 0 rfl) ?_
  refine lv_sipush (v := 6100) hx hb dX13_init_712 (by decide) ?_
  refine k_arrF hts iX13 tyX13 tyX13_ok nmX13 hx hb hown hin2 hK hc hJ hP hD hS (hts _ (bP 7 rfl)) 60 (by decide) (by decide) rfl (hts _ (bP 46 rfl)) rfl rfl (ty := .int) (by decide +kernel) (N' := 6100) (by decide) (by decide) (by decide) (by omega) (by omega) dX13_init_715 dX13_init_717 (fun H locs fs hJ hP hD hS => ?_)
  refine lv_aload_n hx hb dX13_init_720 rfl (lv_at hl 0 rfl) ?_
  refine lv_sipush (v := 6100) hx hb dX13_init_721 (by decide) ?_
  refine k_arrF hts iX13 tyX13 tyX13_ok nmX13 hx hb hown hin2 hK hc hJ hP hD hS (hts _ (bP 7 rfl)) 61 (by decide) (by decide) rfl (hts _ (bP 47 rfl)) rfl rfl (ty := .int) (by decide +kernel) (N' := 6100) (by decide) (by decide) (by decide) (by omega) (by omega) dX13_init_724 dX13_init_726 (fun H locs fs hJ hP hD hS => ?_)
  refine lv_aload_n hx hb dX13_init_729 rfl (lv_at hl 0 rfl) ?_
  refine lv_sipush (v := 14000) hx hb dX13_init_730 (by decide) ?_
  refine k_arrF hts iX13 tyX13 tyX13_ok nmX13 hx hb hown hin2 hK hc hJ hP hD hS (hts _ (bP 7 rfl)) 63 (by decide) (by decide) rfl (hts _ (bP 48 rfl)) rfl rfl (ty := .int) (by decide +kernel) (N' := 14000) (by decide) (by decide) (by decide) (by omega) (by omega) dX13_init_733 dX13_init_735 (fun H locs fs hJ hP hD hS => ?_)
  refine lv_aload_n hx hb dX13_init_738 rfl (lv_at hl 0 rfl) ?_
  refine lv_sipush (v := 14000) hx hb dX13_init_739 (by decide) ?_
  refine k_arrF hts iX13 tyX13 tyX13_ok nmX13 hx hb hown hin2 hK hc hJ hP hD hS (hts _ (bP 7 rfl)) 66 (by decide) (by decide) rfl (hts _ (bP 49 rfl)) rfl rfl (ty := .int) (by decide +kernel) (N' := 14000) (by decide) (by decide) (by decide) (by omega) (by omega) dX13_init_742 dX13_init_744 (fun H locs fs hJ hP hD hS => ?_)
  refine lv_aload_n hx hb dX13_init_747 rfl (lv_at hl 0 rfl) ?_
  refine lv_sipush (v := 14000) hx hb dX13_init_748 (by decide) ?_
  refine k_arrF hts iX13 tyX13 tyX13_ok nmX13 hx hb hown hin2 hK hc hJ hP hD hS (hts _ (bP 7 rfl)) 67 (by decide) (by decide) rfl (hts _ (bP 50 rfl)) rfl rfl (ty := .int) (by decide +kernel) (N' := 14000) (by decide) (by decide) (by decide) (by omega) (by omega) dX13_init_751 dX13_init_753 (fun H locs fs hJ hP hD hS => ?_)
  refine lv_aload_n hx hb dX13_init_756 rfl (lv_at hl 0 rfl) ?_
  refine lv_sipush (v := 6100) hx hb dX13_init_757 (by decide) ?_
  refine k_arrF hts iX13 tyX13 tyX13_ok nmX13 hx hb hown hin2 hK hc hJ hP hD hS (hts _ (bP 41 rfl)) 68 (by decide) (by decide) rfl (hts _ (bP 51 rfl)) rfl rfl (ty := .boolean) (by decide +kernel) (N' := 6100) (by decide) (by decide) (by decide) (by omega) (by omega) dX13_init_760 dX13_init_762 (fun H locs fs hJ hP hD hS => ?_)
  refine lv_aload_n hx hb dX13_init_765 rfl (lv_at hl 0 rfl) ?_
  refine lv_sipush (v := 6100) hx hb dX13_init_766 (by decide) ?_
  refine k_arrF hts iX13 tyX13 tyX13_ok nmX13 hx hb hown hin2 hK hc hJ hP hD hS (hts _ (bP 7 rfl)) 69 (by decide) (by decide) rfl (hts _ (bP 52 rfl)) rfl rfl (ty := .int) (by decide +kernel) (N' := 6100) (by decide) (by decide) (by decide) (by omega) (by omega) dX13_init_769 dX13_init_771 (fun H locs fs hJ hP hD hS => ?_)
  refine W.widen (k := cells + 18) (n := slots + 133500) (by omega) (by omega) ?_
  exact kk H locs fs hJ hP hD hS
set_option maxHeartbeats 4000000 in
set_option maxRecDepth 100000 in
theorem mi_3 {p : Program} {l : Launch} {e : Env} {R : Room} {s : State} {m : MethodId} {args : Array Value} {below : List Frame} {meth : Method} {c : Code} {H : Heap} {locs : List Loc} {cells slots : Nat} {Q : State → Prop} {ls : Array Slot} {D : va_G} {A : Nat → Prop} {tys : List (ClassId × FieldType)} {H0 : Heap} {h0 : Nat} {fs : List Value} {wr : va_W} {qh q2 q7 q8 q9 q10 : Nat} {k0 : Cond} {cl : List vw_C} {ci : Nat}
    (hx : p.tables.exec = Jvm.exec) (hb : c.code = cX13_init) (hts : ∀ w ∈ k0 :: wP, w.before args s = true) (hown : s.vm.findClass RX13 = some m.cls) (hin2 : meth.name = "<init>") (hao : (Cond.arrayOver (.array .int)).before args s = true) (hc : cl[ci]? = some (RX13, TX13, 180)) (hl : lv_has ls 1 [(0, .ref h0)]) (hK : va_K D cl tys s) (hJ : kJ 180 (mL qh q2 q7 q8 q9 q10) fs) (hP : va_P D cl ((h0, .inr (ci, fs)) :: wr) H) (hD : va_D A ((h0, .inr (ci, fs)) :: wr)) (hS : va_S A H0 H locs)
    (hrc : cells + 18 ≤ R.cells) (hrs : slots + 193952 ≤ R.slots)
    (kk : ∀ (H1 : Heap) (locs1 : List Loc) (fs1 : List Value), kJ 180 (mL qh q2 q7 q8 q9 q10) fs1 → va_P D cl ((h0, .inr (ci, fs1)) :: wr) H1 → va_D A ((h0, .inr (ci, fs1)) :: wr) → va_S A H0 H1 locs1 → W p l e R s m args below meth c H1 locs1 (cells + 18) (slots + 193952) Q (F0 m 930 ls [])) : W p l e R s m args below meth c H locs cells slots Q (F0 m 774 ls []) := by
  refine lv_aload_n hx hb dX13_init_774 rfl (lv_at hl 0 rfl) ?_
  refine lv_sipush (v := 6100) hx hb dX13_init_775 (by decide) ?_
  refine k_arrF hts iX13 tyX13 tyX13_ok nmX13 hx hb hown hin2 hK hc hJ hP hD hS (hts _ (bP 7 rfl)) 70 (by decide) (by decide) rfl (hts _ (bP 53 rfl)) rfl rfl (ty := .int) (by decide +kernel) (N' := 6100) (by decide) (by decide) (by decide) (by omega) (by omega) dX13_init_778 dX13_init_780 (fun H locs fs hJ hP hD hS => ?_)
  refine lv_aload_n hx hb dX13_init_783 rfl (lv_at hl 0 rfl) ?_
  refine lv_sipush (v := 6100) hx hb dX13_init_784 (by decide) ?_
  refine k_arrF hts iX13 tyX13 tyX13_ok nmX13 hx hb hown hin2 hK hc hJ hP hD hS (hts _ (bP 41 rfl)) 71 (by decide) (by decide) rfl (hts _ (bP 54 rfl)) rfl rfl (ty := .boolean) (by decide +kernel) (N' := 6100) (by decide) (by decide) (by decide) (by omega) (by omega) dX13_init_787 dX13_init_789 (fun H locs fs hJ hP hD hS => ?_)
  refine lv_aload_n hx hb dX13_init_792 rfl (lv_at hl 0 rfl) ?_
  refine lv_sipush (v := 14000) hx hb dX13_init_793 (by decide) ?_
  refine k_arrF hts iX13 tyX13 tyX13_ok nmX13 hx hb hown hin2 hK hc hJ hP hD hS (hts _ (bP 55 rfl)) 76 (by decide) (by decide) rfl (hts _ (bP 56 rfl)) rfl rfl (ty := .long) (by decide +kernel) (N' := 14000) (by decide) (by decide) (by decide) (by omega) (by omega) dX13_init_796 dX13_init_798 (fun H locs fs hJ hP hD hS => ?_)
  refine lv_aload_n hx hb dX13_init_801 rfl (lv_at hl 0 rfl) ?_
  refine lv_sipush (v := 14000) hx hb dX13_init_802 (by decide) ?_
  refine k_arrF hts iX13 tyX13 tyX13_ok nmX13 hx hb hown hin2 hK hc hJ hP hD hS (hts _ (bP 7 rfl)) 77 (by decide) (by decide) rfl (hts _ (bP 57 rfl)) rfl rfl (ty := .int) (by decide +kernel) (N' := 14000) (by decide) (by decide) (by decide) (by omega) (by omega) dX13_init_805 dX13_init_807 (fun H locs fs hJ hP hD hS => ?_)
  refine lv_aload_n hx hb dX13_init_810 rfl (lv_at hl 0 rfl) ?_
  refine lv_sipush (v := 14000) hx hb dX13_init_811 (by decide) ?_
  refine k_arrF hts iX13 tyX13 tyX13_ok nmX13 hx hb hown hin2 hK hc hJ hP hD hS (hts _ (bP 7 rfl)) 78 (by decide) (by decide) rfl (hts _ (bP 58 rfl)) rfl rfl (ty := .int) (by decide +kernel) (N' := 14000) (by decide) (by decide) (by decide) (by omega) (by omega) dX13_init_814 dX13_init_816 (fun H locs fs hJ hP hD hS => ?_)
  refine lv_aload_n hx hb dX13_init_819 rfl (lv_at hl 0 rfl) ?_
  refine lv_ldcw hx hb hown (hts _ (bP 59 rfl)) dX13_init_820 ?_
  refine k_arrP hts iX13 tyX13 tyX13_ok nmX13 hx hb hown hK hc hJ hP hD hS (hts _ (bP 7 rfl)) 81 (by decide) (by decide) rfl (hts _ (bP 60 rfl)) rfl rfl (ty := .int) (by decide +kernel) (N' := 32768) (by decide) (by decide) (by decide) (by omega) (by omega) dX13_init_823 dX13_init_825 (fun H locs fs hJ hP hD hS => ?_)
  refine lv_aload_n hx hb dX13_init_828 rfl (lv_at hl 0 rfl) ?_
  refine lv_ldcw hx hb hown (hts _ (bP 59 rfl)) dX13_init_829 ?_
  refine k_arrP hts iX13 tyX13 tyX13_ok nmX13 hx hb hown hK hc hJ hP hD hS (hts _ (bP 7 rfl)) 82 (by decide) (by decide) rfl (hts _ (bP 61 rfl)) rfl rfl (ty := .int) (by decide +kernel) (N' := 32768) (by decide) (by decide) (by decide) (by omega) (by omega) dX13_init_832 dX13_init_834 (fun H locs fs hJ hP hD hS => ?_)
  refine lv_aload_n hx hb dX13_init_837 rfl (lv_at hl 0 rfl) ?_
  refine lv_sipush (v := 14000) hx hb dX13_init_838 (by decide) ?_
  refine k_arrF hts iX13 tyX13 tyX13_ok nmX13 hx hb hown hin2 hK hc hJ hP hD hS (hts _ (bP 7 rfl)) 83 (by decide) (by decide) rfl (hts _ (bP 62 rfl)) rfl rfl (ty := .int) (by decide +kernel) (N' := 14000) (by decide) (by decide) (by decide) (by omega) (by omega) dX13_init_841 dX13_init_843 (fun H locs fs hJ hP hD hS => ?_)
  refine lv_aload_n hx hb dX13_init_846 rfl (lv_at hl 0 rfl) ?_
  refine lv_sipush (v := 14000) hx hb dX13_init_847 (by decide) ?_
  refine k_arrF hts iX13 tyX13 tyX13_ok nmX13 hx hb hown hin2 hK hc hJ hP hD hS (hts _ (bP 7 rfl)) 84 (by decide) (by decide) rfl (hts _ (bP 63 rfl)) rfl rfl (ty := .int) (by decide +kernel) (N' := 14000) (by decide) (by decide) (by decide) (by omega) (by omega) dX13_init_850 dX13_init_852 (fun H locs fs hJ hP hD hS => ?_)
  refine lv_aload_n hx hb dX13_init_855 rfl (lv_at hl 0 rfl) ?_
  refine lv_sipush (v := 14000) hx hb dX13_init_856 (by decide) ?_
  refine k_arrF hts iX13 tyX13 tyX13_ok nmX13 hx hb hown hin2 hK hc hJ hP hD hS (hts _ (bP 41 rfl)) 85 (by decide) (by decide) rfl (hts _ (bP 64 rfl)) rfl rfl (ty := .boolean) (by decide +kernel) (N' := 14000) (by decide) (by decide) (by decide) (by omega) (by omega) dX13_init_859 dX13_init_861 (fun H locs fs hJ hP hD hS => ?_)
  refine lv_aload_n hx hb dX13_init_864 rfl (lv_at hl 0 rfl) ?_
  refine lv_iconst (v := 4) hx hb dX13_init_865 (by decide) ?_
  refine k_arrF hts iX13 tyX13 tyX13_ok nmX13 hx hb hown hin2 hK hc hJ hP hD hS (hts _ (bP 55 rfl)) 92 (by decide) (by decide) rfl (hts _ (bP 65 rfl)) rfl rfl (ty := .long) (by decide +kernel) (N' := 4) (by decide) (by decide) (by decide) (by omega) (by omega) dX13_init_866 dX13_init_868 (fun H locs fs hJ hP hD hS => ?_)
  refine lv_aload_n hx hb dX13_init_871 rfl (lv_at hl 0 rfl) ?_
  refine lv_bipush (v := 64) hx hb dX13_init_872 (by decide) ?_
  refine k_arrF hts iX13 tyX13 tyX13_ok nmX13 hx hb hown hin2 hK hc hJ hP hD hS (hts _ (bP 7 rfl)) 94 (by decide) (by decide) rfl (hts _ (bP 66 rfl)) rfl rfl (ty := .int) (by decide +kernel) (N' := 64) (by decide) (by decide) (by decide) (by omega) (by omega) dX13_init_874 dX13_init_876 (fun H locs fs hJ hP hD hS => ?_)
  refine lv_aload_n hx hb dX13_init_879 rfl (lv_at hl 0 rfl) ?_
  refine lv_sipush (v := 6100) hx hb dX13_init_880 (by decide) ?_
  refine k_arrF hts iX13 tyX13 tyX13_ok nmX13 hx hb hown hin2 hK hc hJ hP hD hS (hts _ (bP 41 rfl)) 95 (by decide) (by decide) rfl (hts _ (bP 67 rfl)) rfl rfl (ty := .boolean) (by decide +kernel) (N' := 6100) (by decide) (by decide) (by decide) (by omega) (by omega) dX13_init_883 dX13_init_885 (fun H locs fs hJ hP hD hS => ?_)
  refine lv_aload_n hx hb dX13_init_888 rfl (lv_at hl 0 rfl) ?_
  refine lv_sipush (v := 14000) hx hb dX13_init_889 (by decide) ?_
  refine k_arrF hts iX13 tyX13 tyX13_ok nmX13 hx hb hown hin2 hK hc hJ hP hD hS (hts _ (bP 7 rfl)) 96 (by decide) (by decide) rfl (hts _ (bP 68 rfl)) rfl rfl (ty := .int) (by decide +kernel) (N' := 14000) (by decide) (by decide) (by decide) (by omega) (by omega) dX13_init_892 dX13_init_894 (fun H locs fs hJ hP hD hS => ?_)
  refine lv_aload_n hx hb dX13_init_897 rfl (lv_at hl 0 rfl) ?_
  refine lv_sipush (v := 12000) hx hb dX13_init_898 (by decide) ?_
  refine k_arrF hts iX13 tyX13 tyX13_ok nmX13 hx hb hown hin2 hK hc hJ hP hD hS (hts _ (bP 55 rfl)) 97 (by decide) (by decide) rfl (hts _ (bP 69 rfl)) rfl rfl (ty := .long) (by decide +kernel) (N' := 12000) (by decide) (by decide) (by decide) (by omega) (by omega) dX13_init_901 dX13_init_903 (fun H locs fs hJ hP hD hS => ?_)
  refine lv_aload_n hx hb dX13_init_906 rfl (lv_at hl 0 rfl) ?_
  refine lv_bipush (v := 8) hx hb dX13_init_907 (by decide) ?_
  refine k_arrF hts iX13 tyX13 tyX13_ok nmX13 hx hb hown hin2 hK hc hJ hP hD hS (hts _ (bP 7 rfl)) 101 (by decide) (by decide) rfl (hts _ (bP 70 rfl)) rfl rfl (ty := .int) (by decide +kernel) (N' := 8) (by decide) (by decide) (by decide) (by omega) (by omega) dX13_init_909 dX13_init_911 (fun H locs fs hJ hP hD hS => ?_)
  refine lv_aload_n hx hb dX13_init_914 rfl (lv_at hl 0 rfl) ?_
  refine lv_bipush (v := 8) hx hb dX13_init_915 (by decide) ?_
  refine k_arrF hts iX13 tyX13 tyX13_ok nmX13 hx hb hown hin2 hK hc hJ hP hD hS (hts _ (bP 41 rfl)) 102 (by decide) (by decide) rfl (hts _ (bP 71 rfl)) rfl rfl (ty := .boolean) (by decide +kernel) (N' := 8) (by decide) (by decide) (by decide) (by omega) (by omega) dX13_init_917 dX13_init_919 (fun H locs fs hJ hP hD hS => ?_)
  refine lv_aload_n hx hb dX13_init_922 rfl (lv_at hl 0 rfl) ?_
  refine lv_bipush (v := 32) hx hb dX13_init_923 (by decide) ?_
  refine k_arrF hts iX13 tyX13 tyX13_ok nmX13 hx hb hown hin2 hK hc hJ hP hD hS (hts _ (bP 55 rfl)) 103 (by decide) (by decide) rfl (hts _ (bP 72 rfl)) rfl rfl (ty := .long) (by decide +kernel) (N' := 32) (by decide) (by decide) (by decide) (by omega) (by omega) dX13_init_925 dX13_init_927 (fun H locs fs hJ hP hD hS => ?_)
  refine W.widen (k := cells + 18) (n := slots + 193952) (by omega) (by omega) ?_
  exact kk H locs fs hJ hP hD hS
set_option maxHeartbeats 4000000 in
set_option maxRecDepth 100000 in
theorem mi_4 {p : Program} {l : Launch} {e : Env} {R : Room} {s : State} {m : MethodId} {args : Array Value} {below : List Frame} {meth : Method} {c : Code} {H : Heap} {locs : List Loc} {cells slots : Nat} {Q : State → Prop} {ls : Array Slot} {D : va_G} {A : Nat → Prop} {tys : List (ClassId × FieldType)} {H0 : Heap} {h0 : Nat} {fs : List Value} {wr : va_W} {qh q2 q7 q8 q9 q10 : Nat} {k0 : Cond} {cl : List vw_C} {ci : Nat}
    (hx : p.tables.exec = Jvm.exec) (hb : c.code = cX13_init) (hts : ∀ w ∈ k0 :: wP, w.before args s = true) (hown : s.vm.findClass RX13 = some m.cls) (hin2 : meth.name = "<init>") (hao : (Cond.arrayOver (.array .int)).before args s = true) (hc : cl[ci]? = some (RX13, TX13, 180)) (hl : lv_has ls 1 [(0, .ref h0)]) (hK : va_K D cl tys s) (hJ : kJ 180 (mL qh q2 q7 q8 q9 q10) fs) (hP : va_P D cl ((h0, .inr (ci, fs)) :: wr) H) (hD : va_D A ((h0, .inr (ci, fs)) :: wr)) (hS : va_S A H0 H locs)
    (hrc : cells + 18 ≤ R.cells) (hrs : slots + 273544 ≤ R.slots)
    (kk : ∀ (H1 : Heap) (locs1 : List Loc) (fs1 : List Value), kJ 180 (mL qh q2 q7 q8 q9 q10) fs1 → va_P D cl ((h0, .inr (ci, fs1)) :: wr) H1 → va_D A ((h0, .inr (ci, fs1)) :: wr) → va_S A H0 H1 locs1 → W p l e R s m args below meth c H1 locs1 (cells + 18) (slots + 273544) Q (F0 m 1090 ls [])) : W p l e R s m args below meth c H locs cells slots Q (F0 m 930 ls []) := by
  refine lv_aload_n hx hb dX13_init_930 rfl (lv_at hl 0 rfl) ?_
  refine lv_sipush (v := 1600) hx hb dX13_init_931 (by decide) ?_
  refine k_arrF hts iX13 tyX13 tyX13_ok nmX13 hx hb hown hin2 hK hc hJ hP hD hS (hts _ (bP 7 rfl)) 105 (by decide) (by decide) rfl (hts _ (bP 73 rfl)) rfl rfl (ty := .int) (by decide +kernel) (N' := 1600) (by decide) (by decide) (by decide) (by omega) (by omega) dX13_init_934 dX13_init_936 (fun H locs fs hJ hP hD hS => ?_)
  refine lv_aload_n hx hb dX13_init_939 rfl (lv_at hl 0 rfl) ?_
  refine lv_sipush (v := 6400) hx hb dX13_init_940 (by decide) ?_
  refine k_arrF hts iX13 tyX13 tyX13_ok nmX13 hx hb hown hin2 hK hc hJ hP hD hS (hts _ (bP 41 rfl)) 106 (by decide) (by decide) rfl (hts _ (bP 74 rfl)) rfl rfl (ty := .boolean) (by decide +kernel) (N' := 6400) (by decide) (by decide) (by decide) (by omega) (by omega) dX13_init_943 dX13_init_945 (fun H locs fs hJ hP hD hS => ?_)
  refine lv_aload_n hx hb dX13_init_948 rfl (lv_at hl 0 rfl) ?_
  refine lv_sipush (v := 25600) hx hb dX13_init_949 (by decide) ?_
  refine k_arrF hts iX13 tyX13 tyX13_ok nmX13 hx hb hown hin2 hK hc hJ hP hD hS (hts _ (bP 55 rfl)) 107 (by decide) (by decide) rfl (hts _ (bP 75 rfl)) rfl rfl (ty := .long) (by decide +kernel) (N' := 25600) (by decide) (by decide) (by decide) (by omega) (by omega) dX13_init_952 dX13_init_954 (fun H locs fs hJ hP hD hS => ?_)
  refine lv_aload_n hx hb dX13_init_957 rfl (lv_at hl 0 rfl) ?_
  refine lv_sipush (v := 6400) hx hb dX13_init_958 (by decide) ?_
  refine k_arrF hts iX13 tyX13 tyX13_ok nmX13 hx hb hown hin2 hK hc hJ hP hD hS (hts _ (bP 41 rfl)) 108 (by decide) (by decide) rfl (hts _ (bP 76 rfl)) rfl rfl (ty := .boolean) (by decide +kernel) (N' := 6400) (by decide) (by decide) (by decide) (by omega) (by omega) dX13_init_961 dX13_init_963 (fun H locs fs hJ hP hD hS => ?_)
  refine lv_aload_n hx hb dX13_init_966 rfl (lv_at hl 0 rfl) ?_
  refine lv_sipush (v := 25600) hx hb dX13_init_967 (by decide) ?_
  refine k_arrF hts iX13 tyX13 tyX13_ok nmX13 hx hb hown hin2 hK hc hJ hP hD hS (hts _ (bP 55 rfl)) 109 (by decide) (by decide) rfl (hts _ (bP 77 rfl)) rfl rfl (ty := .long) (by decide +kernel) (N' := 25600) (by decide) (by decide) (by decide) (by omega) (by omega) dX13_init_970 dX13_init_972 (fun H locs fs hJ hP hD hS => ?_)
  refine lv_aload_n hx hb dX13_init_975 rfl (lv_at hl 0 rfl) ?_
  refine lv_ldcw hx hb hown (hts _ (bP 78 rfl)) dX13_init_976 ?_
  refine k_arrP hts iX13 tyX13 tyX13_ok nmX13 hx hb hown hK hc hJ hP hD hS (hts _ (bP 7 rfl)) 111 (by decide) (by decide) rfl (hts _ (bP 79 rfl)) rfl rfl (ty := .int) (by decide +kernel) (N' := 65536) (by decide) (by decide) (by decide) (by omega) (by omega) dX13_init_979 dX13_init_981 (fun H locs fs hJ hP hD hS => ?_)
  refine lv_aload_n hx hb dX13_init_984 rfl (lv_at hl 0 rfl) ?_
  refine lv_ldcw hx hb hown (hts _ (bP 78 rfl)) dX13_init_985 ?_
  refine k_arrP hts iX13 tyX13 tyX13_ok nmX13 hx hb hown hK hc hJ hP hD hS (hts _ (bP 7 rfl)) 112 (by decide) (by decide) rfl (hts _ (bP 80 rfl)) rfl rfl (ty := .int) (by decide +kernel) (N' := 65536) (by decide) (by decide) (by decide) (by omega) (by omega) dX13_init_988 dX13_init_990 (fun H locs fs hJ hP hD hS => ?_)
  refine lv_aload_n hx hb dX13_init_993 rfl (lv_at hl 0 rfl) ?_
  refine lv_ldcw hx hb hown (hts _ (bP 78 rfl)) dX13_init_994 ?_
  refine k_arrP hts iX13 tyX13 tyX13_ok nmX13 hx hb hown hK hc hJ hP hD hS (hts _ (bP 7 rfl)) 113 (by decide) (by decide) rfl (hts _ (bP 81 rfl)) rfl rfl (ty := .int) (by decide +kernel) (N' := 65536) (by decide) (by decide) (by decide) (by omega) (by omega) dX13_init_997 dX13_init_999 (fun H locs fs hJ hP hD hS => ?_)
  refine lv_aload_n hx hb dX13_init_1002 rfl (lv_at hl 0 rfl) ?_
  refine lv_sipush (v := 2048) hx hb dX13_init_1003 (by decide) ?_
  refine k_arrP hts iX13 tyX13 tyX13_ok nmX13 hx hb hown hK hc hJ hP hD hS (hts _ (bP 7 rfl)) 116 (by decide) (by decide) rfl (hts _ (bP 82 rfl)) rfl rfl (ty := .int) (by decide +kernel) (N' := 2048) (by decide) (by decide) (by decide) (by omega) (by omega) dX13_init_1006 dX13_init_1008 (fun H locs fs hJ hP hD hS => ?_)
  refine lv_aload_n hx hb dX13_init_1011 rfl (lv_at hl 0 rfl) ?_
  refine lv_sipush (v := 2048) hx hb dX13_init_1012 (by decide) ?_
  refine k_arrP hts iX13 tyX13 tyX13_ok nmX13 hx hb hown hK hc hJ hP hD hS (hts _ (bP 7 rfl)) 117 (by decide) (by decide) rfl (hts _ (bP 83 rfl)) rfl rfl (ty := .int) (by decide +kernel) (N' := 2048) (by decide) (by decide) (by decide) (by omega) (by omega) dX13_init_1015 dX13_init_1017 (fun H locs fs hJ hP hD hS => ?_)
  refine lv_aload_n hx hb dX13_init_1020 rfl (lv_at hl 0 rfl) ?_
  refine lv_bipush (v := 32) hx hb dX13_init_1021 (by decide) ?_
  refine k_arrQ hts iX13 tyX13 tyX13_ok nmX13 hx hb hown hin2 hK hc hJ hP hD hS (hts _ (bP 84 rfl)) hao 118 (by decide) (by decide) rfl (hts _ (bP 85 rfl)) rfl rfl (ty := .array .int) (by decide +kernel) (N' := 32) (by decide) (by decide) (by decide) (by omega) (by omega) dX13_init_1023 dX13_init_1026 (fun H locs fs hJ hP hD hS => ?_)
  refine lv_aload_n hx hb dX13_init_1029 rfl (lv_at hl 0 rfl) ?_
  refine lv_sipush (v := 2048) hx hb dX13_init_1030 (by decide) ?_
  refine k_arrP hts iX13 tyX13 tyX13_ok nmX13 hx hb hown hK hc hJ hP hD hS (hts _ (bP 7 rfl)) 121 (by decide) (by decide) rfl (hts _ (bP 86 rfl)) rfl rfl (ty := .int) (by decide +kernel) (N' := 2048) (by decide) (by decide) (by decide) (by omega) (by omega) dX13_init_1033 dX13_init_1035 (fun H locs fs hJ hP hD hS => ?_)
  refine lv_aload_n hx hb dX13_init_1038 rfl (lv_at hl 0 rfl) ?_
  refine lv_sipush (v := 2048) hx hb dX13_init_1039 (by decide) ?_
  refine k_arrP hts iX13 tyX13 tyX13_ok nmX13 hx hb hown hK hc hJ hP hD hS (hts _ (bP 7 rfl)) 122 (by decide) (by decide) rfl (hts _ (bP 87 rfl)) rfl rfl (ty := .int) (by decide +kernel) (N' := 2048) (by decide) (by decide) (by decide) (by omega) (by omega) dX13_init_1042 dX13_init_1044 (fun H locs fs hJ hP hD hS => ?_)
  refine lv_aload_n hx hb dX13_init_1047 rfl (lv_at hl 0 rfl) ?_
  refine lv_sipush (v := 2000) hx hb dX13_init_1048 (by decide) ?_
  refine k_arrF hts iX13 tyX13 tyX13_ok nmX13 hx hb hown hin2 hK hc hJ hP hD hS (hts _ (bP 7 rfl)) 136 (by decide) (by decide) rfl (hts _ (bP 88 rfl)) rfl rfl (ty := .int) (by decide +kernel) (N' := 2000) (by decide) (by decide) (by decide) (by omega) (by omega) dX13_init_1051 dX13_init_1053 (fun H locs fs hJ hP hD hS => ?_)
  refine lv_aload_n hx hb dX13_init_1056 rfl (lv_at hl 0 rfl) ?_
  refine lv_sipush (v := 500) hx hb dX13_init_1057 (by decide) ?_
  refine k_arrF hts iX13 tyX13 tyX13_ok nmX13 hx hb hown hin2 hK hc hJ hP hD hS (hts _ (bP 7 rfl)) 138 (by decide) (by decide) rfl (hts _ (bP 89 rfl)) rfl rfl (ty := .int) (by decide +kernel) (N' := 500) (by decide) (by decide) (by decide) (by omega) (by omega) dX13_init_1060 dX13_init_1062 (fun H locs fs hJ hP hD hS => ?_)
  refine lv_aload_n hx hb dX13_init_1065 rfl (lv_at hl 0 rfl) ?_
  refine lv_sipush (v := 448) hx hb dX13_init_1066 (by decide) ?_
  refine k_arrF hts iX13 tyX13 tyX13_ok nmX13 hx hb hown hin2 hK hc hJ hP hD hS (hts _ (bP 7 rfl)) 142 (by decide) (by decide) rfl (hts _ (bP 90 rfl)) rfl rfl (ty := .int) (by decide +kernel) (N' := 448) (by decide) (by decide) (by decide) (by omega) (by omega) dX13_init_1069 dX13_init_1071 (fun H locs fs hJ hP hD hS => ?_)
  refine lv_aload_n hx hb dX13_init_1074 rfl (lv_at hl 0 rfl) ?_
  refine lv_bipush (v := 82) hx hb dX13_init_1075 (by decide) ?_
  refine k_arrF hts iX13 tyX13 tyX13_ok nmX13 hx hb hown hin2 hK hc hJ hP hD hS (hts _ (bP 7 rfl)) 144 (by decide) (by decide) rfl (hts _ (bP 91 rfl)) rfl rfl (ty := .int) (by decide +kernel) (N' := 82) (by decide) (by decide) (by decide) (by omega) (by omega) dX13_init_1077 dX13_init_1079 (fun H locs fs hJ hP hD hS => ?_)
  refine lv_aload_n hx hb dX13_init_1082 rfl (lv_at hl 0 rfl) ?_
  refine lv_bipush (v := 82) hx hb dX13_init_1083 (by decide) ?_
  refine k_arrF hts iX13 tyX13 tyX13_ok nmX13 hx hb hown hin2 hK hc hJ hP hD hS (hts _ (bP 41 rfl)) 145 (by decide) (by decide) rfl (hts _ (bP 92 rfl)) rfl rfl (ty := .boolean) (by decide +kernel) (N' := 82) (by decide) (by decide) (by decide) (by omega) (by omega) dX13_init_1085 dX13_init_1087 (fun H locs fs hJ hP hD hS => ?_)
  refine W.widen (k := cells + 18) (n := slots + 273544) (by omega) (by omega) ?_
  exact kk H locs fs hJ hP hD hS
set_option maxHeartbeats 4000000 in
set_option maxRecDepth 100000 in
theorem mi_5 {p : Program} {l : Launch} {e : Env} {R : Room} {s : State} {m : MethodId} {args : Array Value} {below : List Frame} {meth : Method} {c : Code} {H : Heap} {locs : List Loc} {cells slots : Nat} {Q : State → Prop} {ls : Array Slot} {D : va_G} {A : Nat → Prop} {tys : List (ClassId × FieldType)} {H0 : Heap} {h0 : Nat} {fs : List Value} {wr : va_W} {qh q2 q7 q8 q9 q10 : Nat} {k0 : Cond} {cl : List vw_C} {ci : Nat}
    (hx : p.tables.exec = Jvm.exec) (hb : c.code = cX13_init) (hts : ∀ w ∈ k0 :: wP, w.before args s = true) (hown : s.vm.findClass RX13 = some m.cls) (hin2 : meth.name = "<init>") (hao : (Cond.arrayOver (.array .int)).before args s = true) (hc : cl[ci]? = some (RX13, TX13, 180)) (hl : lv_has ls 1 [(0, .ref h0)]) (hK : va_K D cl tys s) (hJ : kJ 180 (mL qh q2 q7 q8 q9 q10) fs) (hP : va_P D cl ((h0, .inr (ci, fs)) :: wr) H) (hD : va_D A ((h0, .inr (ci, fs)) :: wr)) (hS : va_S A H0 H locs)
    (hrc : cells + 18 ≤ R.cells) (hrs : slots + 1806 ≤ R.slots)
    (kk : ∀ (H1 : Heap) (locs1 : List Loc) (fs1 : List Value), kJ 180 (mL qh q2 q7 q8 q9 q10) fs1 → va_P D cl ((h0, .inr (ci, fs1)) :: wr) H1 → va_D A ((h0, .inr (ci, fs1)) :: wr) → va_S A H0 H1 locs1 → W p l e R s m args below meth c H1 locs1 (cells + 18) (slots + 1806) Q (F0 m 1237 ls [])) : W p l e R s m args below meth c H locs cells slots Q (F0 m 1090 ls []) := by
  refine lv_aload_n hx hb dX13_init_1090 rfl (lv_at hl 0 rfl) ?_
  refine lv_bipush (v := 82) hx hb dX13_init_1091 (by decide) ?_
  refine k_arrF hts iX13 tyX13 tyX13_ok nmX13 hx hb hown hin2 hK hc hJ hP hD hS (hts _ (bP 7 rfl)) 146 (by decide) (by decide) rfl (hts _ (bP 93 rfl)) rfl rfl (ty := .int) (by decide +kernel) (N' := 82) (by decide) (by decide) (by decide) (by omega) (by omega) dX13_init_1093 dX13_init_1095 (fun H locs fs hJ hP hD hS => ?_)
  refine lv_aload_n hx hb dX13_init_1098 rfl (lv_at hl 0 rfl) ?_
  refine lv_bipush (v := 82) hx hb dX13_init_1099 (by decide) ?_
  refine k_arrF hts iX13 tyX13 tyX13_ok nmX13 hx hb hown hin2 hK hc hJ hP hD hS (hts _ (bP 7 rfl)) 147 (by decide) (by decide) rfl (hts _ (bP 94 rfl)) rfl rfl (ty := .int) (by decide +kernel) (N' := 82) (by decide) (by decide) (by decide) (by omega) (by omega) dX13_init_1101 dX13_init_1103 (fun H locs fs hJ hP hD hS => ?_)
  refine lv_aload_n hx hb dX13_init_1106 rfl (lv_at hl 0 rfl) ?_
  refine lv_bipush (v := 82) hx hb dX13_init_1107 (by decide) ?_
  refine k_arrF hts iX13 tyX13 tyX13_ok nmX13 hx hb hown hin2 hK hc hJ hP hD hS (hts _ (bP 7 rfl)) 148 (by decide) (by decide) rfl (hts _ (bP 95 rfl)) rfl rfl (ty := .int) (by decide +kernel) (N' := 82) (by decide) (by decide) (by decide) (by omega) (by omega) dX13_init_1109 dX13_init_1111 (fun H locs fs hJ hP hD hS => ?_)
  refine lv_aload_n hx hb dX13_init_1114 rfl (lv_at hl 0 rfl) ?_
  refine lv_bipush (v := 82) hx hb dX13_init_1115 (by decide) ?_
  refine k_arrF hts iX13 tyX13 tyX13_ok nmX13 hx hb hown hin2 hK hc hJ hP hD hS (hts _ (bP 7 rfl)) 149 (by decide) (by decide) rfl (hts _ (bP 96 rfl)) rfl rfl (ty := .int) (by decide +kernel) (N' := 82) (by decide) (by decide) (by decide) (by omega) (by omega) dX13_init_1117 dX13_init_1119 (fun H locs fs hJ hP hD hS => ?_)
  refine lv_aload_n hx hb dX13_init_1122 rfl (lv_at hl 0 rfl) ?_
  refine lv_bipush (v := 82) hx hb dX13_init_1123 (by decide) ?_
  refine k_arrF hts iX13 tyX13 tyX13_ok nmX13 hx hb hown hin2 hK hc hJ hP hD hS (hts _ (bP 7 rfl)) 150 (by decide) (by decide) rfl (hts _ (bP 97 rfl)) rfl rfl (ty := .int) (by decide +kernel) (N' := 82) (by decide) (by decide) (by decide) (by omega) (by omega) dX13_init_1125 dX13_init_1127 (fun H locs fs hJ hP hD hS => ?_)
  refine lv_aload_n hx hb dX13_init_1130 rfl (lv_at hl 0 rfl) ?_
  refine lv_bipush (v := 82) hx hb dX13_init_1131 (by decide) ?_
  refine k_arrF hts iX13 tyX13 tyX13_ok nmX13 hx hb hown hin2 hK hc hJ hP hD hS (hts _ (bP 7 rfl)) 151 (by decide) (by decide) rfl (hts _ (bP 98 rfl)) rfl rfl (ty := .int) (by decide +kernel) (N' := 82) (by decide) (by decide) (by decide) (by omega) (by omega) dX13_init_1133 dX13_init_1135 (fun H locs fs hJ hP hD hS => ?_)
  refine lv_aload_n hx hb dX13_init_1138 rfl (lv_at hl 0 rfl) ?_
  refine lv_bipush (v := 82) hx hb dX13_init_1139 (by decide) ?_
  refine k_arrF hts iX13 tyX13 tyX13_ok nmX13 hx hb hown hin2 hK hc hJ hP hD hS (hts _ (bP 7 rfl)) 152 (by decide) (by decide) rfl (hts _ (bP 99 rfl)) rfl rfl (ty := .int) (by decide +kernel) (N' := 82) (by decide) (by decide) (by decide) (by omega) (by omega) dX13_init_1141 dX13_init_1143 (fun H locs fs hJ hP hD hS => ?_)
  refine lv_aload_n hx hb dX13_init_1146 rfl (lv_at hl 0 rfl) ?_
  refine lv_bipush (v := 82) hx hb dX13_init_1147 (by decide) ?_
  refine k_arrF hts iX13 tyX13 tyX13_ok nmX13 hx hb hown hin2 hK hc hJ hP hD hS (hts _ (bP 7 rfl)) 153 (by decide) (by decide) rfl (hts _ (bP 100 rfl)) rfl rfl (ty := .int) (by decide +kernel) (N' := 82) (by decide) (by decide) (by decide) (by omega) (by omega) dX13_init_1149 dX13_init_1151 (fun H locs fs hJ hP hD hS => ?_)
  refine lv_aload_n hx hb dX13_init_1154 rfl (lv_at hl 0 rfl) ?_
  refine lv_bipush (v := 82) hx hb dX13_init_1155 (by decide) ?_
  refine k_arrF hts iX13 tyX13 tyX13_ok nmX13 hx hb hown hin2 hK hc hJ hP hD hS (hts _ (bP 7 rfl)) 154 (by decide) (by decide) rfl (hts _ (bP 101 rfl)) rfl rfl (ty := .int) (by decide +kernel) (N' := 82) (by decide) (by decide) (by decide) (by omega) (by omega) dX13_init_1157 dX13_init_1159 (fun H locs fs hJ hP hD hS => ?_)
  refine lv_aload_n hx hb dX13_init_1162 rfl (lv_at hl 0 rfl) ?_
  refine lv_bipush (v := 82) hx hb dX13_init_1163 (by decide) ?_
  refine k_arrF hts iX13 tyX13 tyX13_ok nmX13 hx hb hown hin2 hK hc hJ hP hD hS (hts _ (bP 7 rfl)) 155 (by decide) (by decide) rfl (hts _ (bP 102 rfl)) rfl rfl (ty := .int) (by decide +kernel) (N' := 82) (by decide) (by decide) (by decide) (by omega) (by omega) dX13_init_1165 dX13_init_1167 (fun H locs fs hJ hP hD hS => ?_)
  refine lv_aload_n hx hb dX13_init_1170 rfl (lv_at hl 0 rfl) ?_
  refine lv_bipush (v := 82) hx hb dX13_init_1171 (by decide) ?_
  refine k_arrF hts iX13 tyX13 tyX13_ok nmX13 hx hb hown hin2 hK hc hJ hP hD hS (hts _ (bP 7 rfl)) 156 (by decide) (by decide) rfl (hts _ (bP 103 rfl)) rfl rfl (ty := .int) (by decide +kernel) (N' := 82) (by decide) (by decide) (by decide) (by omega) (by omega) dX13_init_1173 dX13_init_1175 (fun H locs fs hJ hP hD hS => ?_)
  refine lv_aload_n hx hb dX13_init_1178 rfl (lv_at hl 0 rfl) ?_
  refine lv_bipush (v := 82) hx hb dX13_init_1179 (by decide) ?_
  refine k_arrF hts iX13 tyX13 tyX13_ok nmX13 hx hb hown hin2 hK hc hJ hP hD hS (hts _ (bP 7 rfl)) 157 (by decide) (by decide) rfl (hts _ (bP 104 rfl)) rfl rfl (ty := .int) (by decide +kernel) (N' := 82) (by decide) (by decide) (by decide) (by omega) (by omega) dX13_init_1181 dX13_init_1183 (fun H locs fs hJ hP hD hS => ?_)
  refine lv_aload_n hx hb dX13_init_1186 rfl (lv_at hl 0 rfl) ?_
  refine lv_bipush (v := 82) hx hb dX13_init_1187 (by decide) ?_
  refine k_arrF hts iX13 tyX13 tyX13_ok nmX13 hx hb hown hin2 hK hc hJ hP hD hS (hts _ (bP 7 rfl)) 158 (by decide) (by decide) rfl (hts _ (bP 105 rfl)) rfl rfl (ty := .int) (by decide +kernel) (N' := 82) (by decide) (by decide) (by decide) (by omega) (by omega) dX13_init_1189 dX13_init_1191 (fun H locs fs hJ hP hD hS => ?_)
  refine lv_aload_n hx hb dX13_init_1194 rfl (lv_at hl 0 rfl) ?_
  refine lv_bipush (v := 82) hx hb dX13_init_1195 (by decide) ?_
  refine k_arrF hts iX13 tyX13 tyX13_ok nmX13 hx hb hown hin2 hK hc hJ hP hD hS (hts _ (bP 41 rfl)) 159 (by decide) (by decide) rfl (hts _ (bP 106 rfl)) rfl rfl (ty := .boolean) (by decide +kernel) (N' := 82) (by decide) (by decide) (by decide) (by omega) (by omega) dX13_init_1197 dX13_init_1199 (fun H locs fs hJ hP hD hS => ?_)
  refine lv_aload_n hx hb dX13_init_1202 rfl (lv_at hl 0 rfl) ?_
  refine lv_bipush (v := 82) hx hb dX13_init_1203 (by decide) ?_
  refine k_arrF hts iX13 tyX13 tyX13_ok nmX13 hx hb hown hin2 hK hc hJ hP hD hS (hts _ (bP 7 rfl)) 160 (by decide) (by decide) rfl (hts _ (bP 107 rfl)) rfl rfl (ty := .int) (by decide +kernel) (N' := 82) (by decide) (by decide) (by decide) (by omega) (by omega) dX13_init_1205 dX13_init_1207 (fun H locs fs hJ hP hD hS => ?_)
  refine lv_aload_n hx hb dX13_init_1210 rfl (lv_at hl 0 rfl) ?_
  refine lv_bipush (v := 64) hx hb dX13_init_1211 (by decide) ?_
  refine k_arrQ hts iX13 tyX13 tyX13_ok nmX13 hx hb hown hin2 hK hc hJ hP hD hS (hts _ (bP 84 rfl)) hao 165 (by decide) (by decide) rfl (hts _ (bP 108 rfl)) rfl rfl (ty := .array .int) (by decide +kernel) (N' := 64) (by decide) (by decide) (by decide) (by omega) (by omega) dX13_init_1213 dX13_init_1216 (fun H locs fs hJ hP hD hS => ?_)
  refine lv_aload_n hx hb dX13_init_1219 rfl (lv_at hl 0 rfl) ?_
  refine lv_sipush (v := 256) hx hb dX13_init_1220 (by decide) ?_
  refine k_arrP hts iX13 tyX13 tyX13_ok nmX13 hx hb hown hK hc hJ hP hD hS (hts _ (bP 7 rfl)) 171 (by decide) (by decide) rfl (hts _ (bP 109 rfl)) rfl rfl (ty := .int) (by decide +kernel) (N' := 256) (by decide) (by decide) (by decide) (by omega) (by omega) dX13_init_1223 dX13_init_1225 (fun H locs fs hJ hP hD hS => ?_)
  refine lv_aload_n hx hb dX13_init_1228 rfl (lv_at hl 0 rfl) ?_
  refine lv_sipush (v := 256) hx hb dX13_init_1229 (by decide) ?_
  refine k_arrP hts iX13 tyX13 tyX13_ok nmX13 hx hb hown hK hc hJ hP hD hS (hts _ (bP 7 rfl)) 172 (by decide) (by decide) rfl (hts _ (bP 110 rfl)) rfl rfl (ty := .int) (by decide +kernel) (N' := 256) (by decide) (by decide) (by decide) (by omega) (by omega) dX13_init_1232 dX13_init_1234 (fun H locs fs hJ hP hD hS => ?_)
  refine W.widen (k := cells + 18) (n := slots + 1806) (by omega) (by omega) ?_
  exact kk H locs fs hJ hP hD hS
set_option maxHeartbeats 4000000 in
set_option maxRecDepth 100000 in
theorem mi_6 {p : Program} {l : Launch} {e : Env} {R : Room} {s : State} {m : MethodId} {args : Array Value} {below : List Frame} {meth : Method} {c : Code} {H : Heap} {locs : List Loc} {cells slots : Nat} {Q : State → Prop} {ls : Array Slot} {D : va_G} {A : Nat → Prop} {tys : List (ClassId × FieldType)} {H0 : Heap} {h0 : Nat} {fs : List Value} {wr : va_W} {qh q2 q7 q8 q9 q10 : Nat} {k0 : Cond} {cl : List vw_C} {ci : Nat}
    (hx : p.tables.exec = Jvm.exec) (hb : c.code = cX13_init) (hts : ∀ w ∈ k0 :: wP, w.before args s = true) (hown : s.vm.findClass RX13 = some m.cls) (hin2 : meth.name = "<init>") (hao : (Cond.arrayOver (.array .int)).before args s = true) (hc : cl[ci]? = some (RX13, TX13, 180)) (hl : lv_has ls 1 [(0, .ref h0)]) (hK : va_K D cl tys s) (hJ : kJ 180 (mL qh q2 q7 q8 q9 q10) fs) (hP : va_P D cl ((h0, .inr (ci, fs)) :: wr) H) (hD : va_D A ((h0, .inr (ci, fs)) :: wr)) (hS : va_S A H0 H locs)
    (hrc : cells + 2 ≤ R.cells) (hrs : slots + 1024 ≤ R.slots)
    (kk : ∀ (H1 : Heap) (locs1 : List Loc) (fs1 : List Value), kJ 180 (mL qh q2 q7 q8 q9 q10) fs1 → va_P D cl ((h0, .inr (ci, fs1)) :: wr) H1 → va_D A ((h0, .inr (ci, fs1)) :: wr) → va_S A H0 H1 locs1 → W p l e R s m args below meth c H1 locs1 (cells + 2) (slots + 1024) Q (F0 m 1255 ls [])) : W p l e R s m args below meth c H locs cells slots Q (F0 m 1237 ls []) := by
  refine lv_aload_n hx hb dX13_init_1237 rfl (lv_at hl 0 rfl) ?_
  refine lv_sipush (v := 512) hx hb dX13_init_1238 (by decide) ?_
  refine k_arrP hts iX13 tyX13 tyX13_ok nmX13 hx hb hown hK hc hJ hP hD hS (hts _ (bP 7 rfl)) 175 (by decide) (by decide) rfl (hts _ (bP 111 rfl)) rfl rfl (ty := .int) (by decide +kernel) (N' := 512) (by decide) (by decide) (by decide) (by omega) (by omega) dX13_init_1241 dX13_init_1243 (fun H locs fs hJ hP hD hS => ?_)
  refine lv_aload_n hx hb dX13_init_1246 rfl (lv_at hl 0 rfl) ?_
  refine lv_sipush (v := 512) hx hb dX13_init_1247 (by decide) ?_
  refine k_arrP hts iX13 tyX13 tyX13_ok nmX13 hx hb hown hK hc hJ hP hD hS (hts _ (bP 7 rfl)) 176 (by decide) (by decide) rfl (hts _ (bP 112 rfl)) rfl rfl (ty := .int) (by decide +kernel) (N' := 512) (by decide) (by decide) (by decide) (by omega) (by omega) dX13_init_1250 dX13_init_1252 (fun H locs fs hJ hP hD hS => ?_)
  refine W.widen (k := cells + 2) (n := slots + 1024) (by omega) (by omega) ?_
  exact kk H locs fs hJ hP hD hS

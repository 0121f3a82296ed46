/-! feed of the reference -/
theorem dX13_feed_0 : decode cX13_feed 0 = .ok (.aload_n 0, 1) := by decide +kernel
theorem dX13_feed_1 : decode cX13_feed 1 = .ok (.iconst 0, 1) := by decide +kernel
theorem dX13_feed_2 : decode cX13_feed 2 = .ok (.putfield 451, 3) := by decide +kernel
theorem dX13_feed_5 : decode cX13_feed 5 = .ok (.aload_n 0, 1) := by decide +kernel
theorem dX13_feed_6 : decode cX13_feed 6 = .ok (.getfield 455, 3) := by decide +kernel
theorem dX13_feed_9 : decode cX13_feed 9 = .ok (.bipush 20, 2) := by decide +kernel
theorem dX13_feed_11 : decode cX13_feed 11 = .ok (.iadd, 1) := by decide +kernel
theorem dX13_feed_12 : decode cX13_feed 12 = .ok (.sipush 6000, 3) := by decide +kernel
theorem dX13_feed_15 : decode cX13_feed 15 = .ok (.if_icmp .le 5, 3) := by decide +kernel
theorem dX13_feed_20 : decode cX13_feed 20 = .ok (.aload_n 0, 1) := by decide +kernel
theorem dX13_feed_21 : decode cX13_feed 21 = .ok (.iload_n 1, 1) := by decide +kernel
theorem dX13_feed_22 : decode cX13_feed 22 = .ok (.invokevirtual 458, 3) := by decide +kernel
theorem dX13_feed_25 : decode cX13_feed 25 = .ok (.aload_n 0, 1) := by decide +kernel
theorem dX13_feed_26 : decode cX13_feed 26 = .ok (.iload_n 2, 1) := by decide +kernel
theorem dX13_feed_27 : decode cX13_feed 27 = .ok (.invokevirtual 458, 3) := by decide +kernel
theorem dX13_feed_30 : decode cX13_feed 30 = .ok (.aload_n 0, 1) := by decide +kernel
theorem dX13_feed_31 : decode cX13_feed 31 = .ok (.iload_n 3, 1) := by decide +kernel
theorem dX13_feed_32 : decode cX13_feed 32 = .ok (.invokevirtual 458, 3) := by decide +kernel
theorem dX13_feed_35 : decode cX13_feed 35 = .ok (.aload_n 0, 1) := by decide +kernel
theorem dX13_feed_36 : decode cX13_feed 36 = .ok (.iload 4, 2) := by decide +kernel
theorem dX13_feed_38 : decode cX13_feed 38 = .ok (.invokevirtual 458, 3) := by decide +kernel
theorem dX13_feed_41 : decode cX13_feed 41 = .ok (.aload_n 0, 1) := by decide +kernel
theorem dX13_feed_42 : decode cX13_feed 42 = .ok (.iload 5, 2) := by decide +kernel
theorem dX13_feed_44 : decode cX13_feed 44 = .ok (.invokevirtual 458, 3) := by decide +kernel
theorem dX13_feed_47 : decode cX13_feed 47 = .ok (.aload_n 0, 1) := by decide +kernel
theorem dX13_feed_48 : decode cX13_feed 48 = .ok (.getfield 455, 3) := by decide +kernel
theorem dX13_feed_51 : decode cX13_feed 51 = .ok (.ireturn, 1) := by decide +kernel
theorem dX13_put_0 : decode cX13_put 0 = .ok (.bipush 24, 2) := by decide +kernel
theorem dX13_put_2 : decode cX13_put 2 = .ok (.istore_n 2, 1) := by decide +kernel
theorem dX13_put_3 : decode cX13_put 3 = .ok (.iload_n 2, 1) := by decide +kernel
theorem dX13_put_4 : decode cX13_put 4 = .ok (.ifCond .lt 35, 3) := by decide +kernel
theorem dX13_put_7 : decode cX13_put 7 = .ok (.aload_n 0, 1) := by decide +kernel
theorem dX13_put_8 : decode cX13_put 8 = .ok (.getfield 16, 3) := by decide +kernel
theorem dX13_put_11 : decode cX13_put 11 = .ok (.aload_n 0, 1) := by decide +kernel
theorem dX13_put_12 : decode cX13_put 12 = .ok (.getfield 455, 3) := by decide +kernel
theorem dX13_put_15 : decode cX13_put 15 = .ok (.iload_n 1, 1) := by decide +kernel
theorem dX13_put_16 : decode cX13_put 16 = .ok (.iload_n 2, 1) := by decide +kernel
theorem dX13_put_17 : decode cX13_put 17 = .ok (.ishr, 1) := by decide +kernel
theorem dX13_put_18 : decode cX13_put 18 = .ok (.sipush 255, 3) := by decide +kernel
theorem dX13_put_21 : decode cX13_put 21 = .ok (.iand, 1) := by decide +kernel
theorem dX13_put_22 : decode cX13_put 22 = .ok (.iastore, 1) := by decide +kernel
theorem dX13_put_23 : decode cX13_put 23 = .ok (.aload_n 0, 1) := by decide +kernel
theorem dX13_put_24 : decode cX13_put 24 = .ok (.dup, 1) := by decide +kernel
theorem dX13_put_25 : decode cX13_put 25 = .ok (.getfield 455, 3) := by decide +kernel
theorem dX13_put_28 : decode cX13_put 28 = .ok (.iconst 1, 1) := by decide +kernel
theorem dX13_put_29 : decode cX13_put 29 = .ok (.iadd, 1) := by decide +kernel
theorem dX13_put_30 : decode cX13_put 30 = .ok (.putfield 455, 3) := by decide +kernel
theorem dX13_put_33 : decode cX13_put 33 = .ok (.iinc 2 (-8), 3) := by decide +kernel
theorem dX13_put_36 : decode cX13_put 36 = .ok (.goto (-33), 3) := by decide +kernel
theorem dX13_put_39 : decode cX13_put 39 = .ok (.return_, 1) := by decide +kernel
set_option maxHeartbeats 4000000 in
set_option maxRecDepth 100000 in
/-- put(v): four bytes more -/
theorem c_M_put (l : Launch) (dC : Nat → ClassId) (dI : Nat → Nat → Nat) (h0 sz : Nat) (fs : List Value) (q2 : Nat) (c2 : ClassId) (f : Nat → Int32) (n : Nat) (a1 : Int32) : Met l yX13_put (.code yX13_put cX13_put 3 none :: wP) ({ frames := 0, cells := 0, slots := 0, locals := 0 }) (va_Pc [.ref h0, .int a1] (fun U => U.heap.size = sz ∧ kJ 180 [(2, .ref q2), (3, .int (nI (n)))] fs ∧ n + 4 ≤ 6000 ∧ va_P (dC, dI) vwCl [(h0, .inr (13, fs)), (q2, .inl (c2, 6000, .inl f))] U.heap ∧ va_K (dC, dI) vwCl [(c2, .int)] U ∧ va_D (fun _ => True) [(h0, .inr (13, fs)), (q2, .inl (c2, 6000, .inl f))])) (va_Qv (fun u : List Value × (Nat → Int32) => kJ 180 [(3, .int (nI (n + 4))), (2, .ref q2)] u.1) (fun (u : List Value × (Nat → Int32)) (t : State) => va_P (dC, dI) vwCl [(h0, .inr (13, u.1)), (q2, .inl (c2, 6000, .inl u.2))] t.heap ∧ va_K (dC, dI) vwCl [(c2, .int)] t ∧ va_D (va_A [(h0, .inr (13, fs)), (q2, .inl (c2, 6000, .inl f))] sz) [(h0, .inr (13, u.1)), (q2, .inl (c2, 6000, .inl u.2))]) (va_A [(h0, .inr (13, fs)), (q2, .inl (c2, 6000, .inl f))] sz)) 0 0 (va_A [(h0, .inr (13, fs)), (q2, .inl (c2, 6000, .inl f))] sz) := by
  refine Met.ofW (cc := cX13_put) (maxL := 3) (ret := none) (by decide) rfl ?_
  intro p e s m args below meth c s₁ B hml hv
  obtain ⟨rfl, hsz, hJ, hn, hP, hK, hD0⟩ := hv
  have hx := B.exec
  have hb := B.bytes
  have hr := B.returns
  have hts := atoms_spec (ws := .code yX13_put cX13_put 3 none :: wP) B.pre
  have hown : s.vm.findClass RX13 = some m.cls := findClass_of_methodNamed B.named
  subst hsz
  have hD := hD0.self (sz := s.heap.size)
  generalize hAe : va_A [(h0, .inr (13, fs)), (q2, .inl (c2, 6000, .inl f))] s.heap.size = A at hD ⊢
  have hA : ∀ q : Nat, s.heap.size ≤ q → A q := fun q h => by rw [← hAe]; exact Or.inr h
  have hS : va_S A s.heap s.heap [] := va_S.rf
  have hl := lv_entry ([.ref h0, .int a1]) (n := 3) (Nat.le_of_ble_eq_true rfl)
  rw [lg_entry_eq]
  generalize (lg_sl ([.ref h0, .int a1]) ++ List.replicate (3 - (lg_sl ([.ref h0, .int a1])).length) Slot.unset).toArray = ls at hl ⊢
  obtain ⟨H, hHe⟩ : ∃ H, H = s.heap := ⟨_, rfl⟩
  rw [← hHe] at hP ⊢
  have hS : va_S A s.heap H [] := by rw [hHe]; exact hS
  have hl : lv_has ls 3 [(0, .ref h0), (1, .int a1)] := hl
  refine lv_bipush (v := 24) hx hb dX13_put_0 (by decide) ?_
  refine lv_istore_n (lv' := [(2, .int 24), (0, .ref h0), (1, .int a1)]) hx hb dX13_put_2 rfl hl (by decide) rfl (fun ls hl => ?_)
  refine lv_iload_n hx hb dX13_put_3 rfl (lv_at hl 0 rfl) ?_
  refine lv_if_lt (tgt := 39) hx hb dX13_put_4 (by decide) (fun h => absurd h (by decide)) (fun _ => ?_)
  refine lv_aload_n hx hb dX13_put_7 rfl (lv_at hl 1 rfl) ?_
  refine va_get (D := (dC, dI)) (ci := 13) (v := .ref q2) (C := RX13) (T := TX13) (N := 180) hx hb hts iX13 hown hK hP 0 rfl rfl 2 (by decide) (hts _ (bP 8 rfl)) (fun _ h9 => h9) (kJ_at hJ 0 rfl) dX13_put_8 ?_
  refine lv_aload_n hx hb dX13_put_11 rfl (lv_at hl 1 rfl) ?_
  refine va_get (D := (dC, dI)) (ci := 13) (v := .int (nI (n))) (C := RX13) (T := TX13) (N := 180) hx hb hts iX13 hown hK hP 0 rfl rfl 3 (by decide) (hts _ (bP 139 rfl)) (fun _ h9 => h9) (kJ_at hJ 1 rfl) dX13_put_12 ?_
  refine lv_iload_n hx hb dX13_put_15 rfl (lv_at hl 2 rfl) ?_
  refine lv_iload_n hx hb dX13_put_16 rfl (lv_at hl 0 rfl) ?_
  refine lv_ishr hx hb dX13_put_17 ?_
  refine lv_topi (fun z1 ez1 => ?_)
  refine lv_sipush (v := 255) hx hb dX13_put_18 (by decide) ?_
  refine lv_iand hx hb dX13_put_21 ?_
  refine lv_topi (fun z2 ez2 => ?_)
  refine kq_iast hx hb hK hP hD hS 1 0 rfl rfl (vp_in_nI (by omega) (by decide)) dX13_put_22 (fun H locs f ef hP hD hS => ?_)
  have hP : va_P (dC, dI) vwCl [(h0, .inr (13, fs)), (q2, .inl (c2, 6000, .inl f))] H := hP
  have hD : va_D A [(h0, .inr (13, fs)), (q2, .inl (c2, 6000, .inl f))] := hD
  clear ez1 ez2 ef
  refine lv_aload_n hx hb dX13_put_23 rfl (lv_at hl 1 rfl) ?_
  refine lv_dup hx hb dX13_put_24 rfl ?_
  refine va_get (D := (dC, dI)) (ci := 13) (v := .int (nI (n))) (C := RX13) (T := TX13) (N := 180) hx hb hts iX13 hown hK hP 0 rfl rfl 3 (by decide) (hts _ (bP 139 rfl)) (fun _ h9 => h9) (kJ_at hJ 1 rfl) dX13_put_25 ?_
  refine lv_iconst (v := 1) hx hb dX13_put_28 (by decide) ?_
  refine lv_iadd hx hb dX13_put_29 ?_
  refine k_i (v := nI (n + 1)) (nI_1 _) ?_
  refine kq_put [(3, .int (nI (n + 1))), (2, .ref q2)] hts iX13 tyX13 tyX13_ok nmX13 hx hb hown hK hP hD hS 0 rfl rfl hJ 3 (by decide) (by decide) (hts _ (bP 139 rfl)) rfl (ty := .int) (by decide +kernel) (v := .int (nI (n + 1))) rfl rfl dX13_put_30 (fun f h => kJ_put h _ _ (by decide)) (fun H locs fs hJ hP hD hS => ?_)
  have hP : va_P (dC, dI) vwCl [(h0, .inr (13, fs)), (q2, .inl (c2, 6000, .inl f))] H := hP
  have hD : va_D A [(h0, .inr (13, fs)), (q2, .inl (c2, 6000, .inl f))] := hD
  refine lv_iinc (v := 16) (lv' := [(2, .int 16), (0, .ref h0), (1, .int a1)]) hx hb dX13_put_33 hl (k := 0) rfl (by decide) (by decide) rfl (fun ls hl => ?_)
  refine lv_goto (tgt := 3) hx hb dX13_put_36 (by decide) ?_
  refine lv_iload_n hx hb dX13_put_3 rfl (lv_at hl 0 rfl) ?_
  refine lv_if_lt (tgt := 39) hx hb dX13_put_4 (by decide) (fun h => absurd h (by decide)) (fun _ => ?_)
  refine lv_aload_n hx hb dX13_put_7 rfl (lv_at hl 1 rfl) ?_
  refine va_get (D := (dC, dI)) (ci := 13) (v := .ref q2) (C := RX13) (T := TX13) (N := 180) hx hb hts iX13 hown hK hP 0 rfl rfl 2 (by decide) (hts _ (bP 8 rfl)) (fun _ h9 => h9) (kJ_at hJ 1 rfl) dX13_put_8 ?_
  refine lv_aload_n hx hb dX13_put_11 rfl (lv_at hl 1 rfl) ?_
  refine va_get (D := (dC, dI)) (ci := 13) (v := .int (nI (n + 1))) (C := RX13) (T := TX13) (N := 180) hx hb hts iX13 hown hK hP 0 rfl rfl 3 (by decide) (hts _ (bP 139 rfl)) (fun _ h9 => h9) (kJ_at hJ 0 rfl) dX13_put_12 ?_
  refine lv_iload_n hx hb dX13_put_15 rfl (lv_at hl 2 rfl) ?_
  refine lv_iload_n hx hb dX13_put_16 rfl (lv_at hl 0 rfl) ?_
  refine lv_ishr hx hb dX13_put_17 ?_
  refine lv_topi (fun z1 ez1 => ?_)
  refine lv_sipush (v := 255) hx hb dX13_put_18 (by decide) ?_
  refine lv_iand hx hb dX13_put_21 ?_
  refine lv_topi (fun z2 ez2 => ?_)
  refine kq_iast hx hb hK hP hD hS 1 0 rfl rfl (vp_in_nI (by omega) (by decide)) dX13_put_22 (fun H locs f ef hP hD hS => ?_)
  have hP : va_P (dC, dI) vwCl [(h0, .inr (13, fs)), (q2, .inl (c2, 6000, .inl f))] H := hP
  have hD : va_D A [(h0, .inr (13, fs)), (q2, .inl (c2, 6000, .inl f))] := hD
  clear ez1 ez2 ef
  refine lv_aload_n hx hb dX13_put_23 rfl (lv_at hl 1 rfl) ?_
  refine lv_dup hx hb dX13_put_24 rfl ?_
  refine va_get (D := (dC, dI)) (ci := 13) (v := .int (nI (n + 1))) (C := RX13) (T := TX13) (N := 180) hx hb hts iX13 hown hK hP 0 rfl rfl 3 (by decide) (hts _ (bP 139 rfl)) (fun _ h9 => h9) (kJ_at hJ 0 rfl) dX13_put_25 ?_
  refine lv_iconst (v := 1) hx hb dX13_put_28 (by decide) ?_
  refine lv_iadd hx hb dX13_put_29 ?_
  refine k_i (v := nI (n + 2)) (nI_1 _) ?_
  refine kq_put [(3, .int (nI (n + 2))), (2, .ref q2)] hts iX13 tyX13 tyX13_ok nmX13 hx hb hown hK hP hD hS 0 rfl rfl hJ 3 (by decide) (by decide) (hts _ (bP 139 rfl)) rfl (ty := .int) (by decide +kernel) (v := .int (nI (n + 2))) rfl rfl dX13_put_30 (fun f h => kJ_put h _ _ (by decide)) (fun H locs fs hJ hP hD hS => ?_)
  have hP : va_P (dC, dI) vwCl [(h0, .inr (13, fs)), (q2, .inl (c2, 6000, .inl f))] H := hP
  have hD : va_D A [(h0, .inr (13, fs)), (q2, .inl (c2, 6000, .inl f))] := hD
  refine lv_iinc (v := 8) (lv' := [(2, .int 8), (0, .ref h0), (1, .int a1)]) hx hb dX13_put_33 hl (k := 0) rfl (by decide) (by decide) rfl (fun ls hl => ?_)
  refine lv_goto (tgt := 3) hx hb dX13_put_36 (by decide) ?_
  refine lv_iload_n hx hb dX13_put_3 rfl (lv_at hl 0 rfl) ?_
  refine lv_if_lt (tgt := 39) hx hb dX13_put_4 (by decide) (fun h => absurd h (by decide)) (fun _ => ?_)
  refine lv_aload_n hx hb dX13_put_7 rfl (lv_at hl 1 rfl) ?_
  refine va_get (D := (dC, dI)) (ci := 13) (v := .ref q2) (C := RX13) (T := TX13) (N := 180) hx hb hts iX13 hown hK hP 0 rfl rfl 2 (by decide) (hts _ (bP 8 rfl)) (fun _ h9 => h9) (kJ_at hJ 1 rfl) dX13_put_8 ?_
  refine lv_aload_n hx hb dX13_put_11 rfl (lv_at hl 1 rfl) ?_
  refine va_get (D := (dC, dI)) (ci := 13) (v := .int (nI (n + 2))) (C := RX13) (T := TX13) (N := 180) hx hb hts iX13 hown hK hP 0 rfl rfl 3 (by decide) (hts _ (bP 139 rfl)) (fun _ h9 => h9) (kJ_at hJ 0 rfl) dX13_put_12 ?_
  refine lv_iload_n hx hb dX13_put_15 rfl (lv_at hl 2 rfl) ?_
  refine lv_iload_n hx hb dX13_put_16 rfl (lv_at hl 0 rfl) ?_
  refine lv_ishr hx hb dX13_put_17 ?_
  refine lv_topi (fun z1 ez1 => ?_)
  refine lv_sipush (v := 255) hx hb dX13_put_18 (by decide) ?_
  refine lv_iand hx hb dX13_put_21 ?_
  refine lv_topi (fun z2 ez2 => ?_)
  refine kq_iast hx hb hK hP hD hS 1 0 rfl rfl (vp_in_nI (by omega) (by decide)) dX13_put_22 (fun H locs f ef hP hD hS => ?_)
  have hP : va_P (dC, dI) vwCl [(h0, .inr (13, fs)), (q2, .inl (c2, 6000, .inl f))] H := hP
  have hD : va_D A [(h0, .inr (13, fs)), (q2, .inl (c2, 6000, .inl f))] := hD
  clear ez1 ez2 ef
  refine lv_aload_n hx hb dX13_put_23 rfl (lv_at hl 1 rfl) ?_
  refine lv_dup hx hb dX13_put_24 rfl ?_
  refine va_get (D := (dC, dI)) (ci := 13) (v := .int (nI (n + 2))) (C := RX13) (T := TX13) (N := 180) hx hb hts iX13 hown hK hP 0 rfl rfl 3 (by decide) (hts _ (bP 139 rfl)) (fun _ h9 => h9) (kJ_at hJ 0 rfl) dX13_put_25 ?_
  refine lv_iconst (v := 1) hx hb dX13_put_28 (by decide) ?_
  refine lv_iadd hx hb dX13_put_29 ?_
  refine k_i (v := nI (n + 3)) (nI_1 _) ?_
  refine kq_put [(3, .int (nI (n + 3))), (2, .ref q2)] hts iX13 tyX13 tyX13_ok nmX13 hx hb hown hK hP hD hS 0 rfl rfl hJ 3 (by decide) (by decide) (hts _ (bP 139 rfl)) rfl (ty := .int) (by decide +kernel) (v := .int (nI (n + 3))) rfl rfl dX13_put_30 (fun f h => kJ_put h _ _ (by decide)) (fun H locs fs hJ hP hD hS => ?_)
  have hP : va_P (dC, dI) vwCl [(h0, .inr (13, fs)), (q2, .inl (c2, 6000, .inl f))] H := hP
  have hD : va_D A [(h0, .inr (13, fs)), (q2, .inl (c2, 6000, .inl f))] := hD
  refine lv_iinc (v := 0) (lv' := [(2, .int 0), (0, .ref h0), (1, .int a1)]) hx hb dX13_put_33 hl (k := 0) rfl (by decide) (by decide) rfl (fun ls hl => ?_)
  refine lv_goto (tgt := 3) hx hb dX13_put_36 (by decide) ?_
  refine lv_iload_n hx hb dX13_put_3 rfl (lv_at hl 0 rfl) ?_
  refine lv_if_lt (tgt := 39) hx hb dX13_put_4 (by decide) (fun h => absurd h (by decide)) (fun _ => ?_)
  refine lv_aload_n hx hb dX13_put_7 rfl (lv_at hl 1 rfl) ?_
  refine va_get (D := (dC, dI)) (ci := 13) (v := .ref q2) (C := RX13) (T := TX13) (N := 180) hx hb hts iX13 hown hK hP 0 rfl rfl 2 (by decide) (hts _ (bP 8 rfl)) (fun _ h9 => h9) (kJ_at hJ 1 rfl) dX13_put_8 ?_
  refine lv_aload_n hx hb dX13_put_11 rfl (lv_at hl 1 rfl) ?_
  refine va_get (D := (dC, dI)) (ci := 13) (v := .int (nI (n + 3))) (C := RX13) (T := TX13) (N := 180) hx hb hts iX13 hown hK hP 0 rfl rfl 3 (by decide) (hts _ (bP 139 rfl)) (fun _ h9 => h9) (kJ_at hJ 0 rfl) dX13_put_12 ?_
  refine lv_iload_n hx hb dX13_put_15 rfl (lv_at hl 2 rfl) ?_
  refine lv_iload_n hx hb dX13_put_16 rfl (lv_at hl 0 rfl) ?_
  refine lv_ishr hx hb dX13_put_17 ?_
  refine lv_topi (fun z1 ez1 => ?_)
  refine lv_sipush (v := 255) hx hb dX13_put_18 (by decide) ?_
  refine lv_iand hx hb dX13_put_21 ?_
  refine lv_topi (fun z2 ez2 => ?_)
  refine kq_iast hx hb hK hP hD hS 1 0 rfl rfl (vp_in_nI (by omega) (by decide)) dX13_put_22 (fun H locs f ef hP hD hS => ?_)
  have hP : va_P (dC, dI) vwCl [(h0, .inr (13, fs)), (q2, .inl (c2, 6000, .inl f))] H := hP
  have hD : va_D A [(h0, .inr (13, fs)), (q2, .inl (c2, 6000, .inl f))] := hD
  clear ez1 ez2 ef
  refine lv_aload_n hx hb dX13_put_23 rfl (lv_at hl 1 rfl) ?_
  refine lv_dup hx hb dX13_put_24 rfl ?_
  refine va_get (D := (dC, dI)) (ci := 13) (v := .int (nI (n + 3))) (C := RX13) (T := TX13) (N := 180) hx hb hts iX13 hown hK hP 0 rfl rfl 3 (by decide) (hts _ (bP 139 rfl)) (fun _ h9 => h9) (kJ_at hJ 0 rfl) dX13_put_25 ?_
  refine lv_iconst (v := 1) hx hb dX13_put_28 (by decide) ?_
  refine lv_iadd hx hb dX13_put_29 ?_
  refine k_i (v := nI (n + 4)) (nI_1 _) ?_
  refine kq_put [(3, .int (nI (n + 4))), (2, .ref q2)] hts iX13 tyX13 tyX13_ok nmX13 hx hb hown hK hP hD hS 0 rfl rfl hJ 3 (by decide) (by decide) (hts _ (bP 139 rfl)) rfl (ty := .int) (by decide +kernel) (v := .int (nI (n + 4))) rfl rfl dX13_put_30 (fun f h => kJ_put h _ _ (by decide)) (fun H locs fs hJ hP hD hS => ?_)
  have hP : va_P (dC, dI) vwCl [(h0, .inr (13, fs)), (q2, .inl (c2, 6000, .inl f))] H := hP
  have hD : va_D A [(h0, .inr (13, fs)), (q2, .inl (c2, 6000, .inl f))] := hD
  refine lv_iinc (v := (-8)) (lv' := [(2, .int (-8)), (0, .ref h0), (1, .int a1)]) hx hb dX13_put_33 hl (k := 0) rfl (by decide) (by decide) rfl (fun ls hl => ?_)
  refine lv_goto (tgt := 3) hx hb dX13_put_36 (by decide) ?_
  refine lv_iload_n hx hb dX13_put_3 rfl (lv_at hl 0 rfl) ?_
  refine lv_if_lt (tgt := 39) hx hb dX13_put_4 (by decide) (fun _ => ?_) (fun h => absurd (by decide) h)
  exact W.vret hx hb hr (fun t ht hW => ⟨⟨(fs, f), rfl, hJ, by rw [ht]; exact hP, va_K.moved hW.alike hK, hD⟩, hS.F ht⟩) hS.2.2 dX13_put_39
set_option maxHeartbeats 4000000 in
set_option maxRecDepth 100000 in
/-- feed on an empty tape: twenty bytes -/
theorem c_M_feed (l : Launch) (dC : Nat → ClassId) (dI : Nat → Nat → Nat) (h0 sz : Nat) (fs : List Value) (q2 : Nat) (c2 : ClassId) (f : Nat → Int32) (a1 : Int32) (a2 : Int32) (a3 : Int32) (a4 : Int32) (a5 : Int32) : Met l yX13_feed (.code yX13_feed cX13_feed 6 (some .int) :: wP) ({ frames := 1, cells := 0, slots := 0, locals := 25 }) (va_Pc [.ref h0, .int a1, .int a2, .int a3, .int a4, .int a5] (fun U => U.heap.size = sz ∧ kJ 180 [(2, .ref q2), (3, .int 0)] fs ∧ va_P (dC, dI) vwCl [(h0, .inr (13, fs)), (q2, .inl (c2, 6000, .inl f))] U.heap ∧ va_K (dC, dI) vwCl [(c2, .int)] U ∧ va_D (fun _ => True) [(h0, .inr (13, fs)), (q2, .inl (c2, 6000, .inl f))])) (va_Qi (fun r (_ : Unit) => r = 20) (fun (_ : Unit) (_ : State) => True) (va_A [(h0, .inr (13, fs)), (q2, .inl (c2, 6000, .inl f))] sz)) 0 0 (va_A [(h0, .inr (13, fs)), (q2, .inl (c2, 6000, .inl f))] sz) := by
  refine Met.ofW (cc := cX13_feed) (maxL := 6) (ret := (some .int)) (by decide) rfl ?_
  intro p e s m args below meth c s₁ B hml hv
  obtain ⟨rfl, hsz, hJ, hP, hK, hD0⟩ := hv
  have hx := B.exec
  have hb := B.bytes
  have hr := B.returns
  have hts := atoms_spec (ws := .code yX13_feed cX13_feed 6 (some .int) :: wP) B.pre
  have hown : s.vm.findClass RX13 = some m.cls := findClass_of_methodNamed B.named
  subst hsz
  have hD := hD0.self (sz := s.heap.size)
  generalize hAe : va_A [(h0, .inr (13, fs)), (q2, .inl (c2, 6000, .inl f))] s.heap.size = A at hD ⊢
  have hA : ∀ q : Nat, s.heap.size ≤ q → A q := fun q h => by rw [← hAe]; exact Or.inr h
  have hS : va_S A s.heap s.heap [] := va_S.rf
  have hl := lv_entry ([.ref h0, .int a1, .int a2, .int a3, .int a4, .int a5]) (n := 6) (Nat.le_of_ble_eq_true rfl)
  rw [lg_entry_eq]
  generalize (lg_sl ([.ref h0, .int a1, .int a2, .int a3, .int a4, .int a5]) ++ List.replicate (6 - (lg_sl ([.ref h0, .int a1, .int a2, .int a3, .int a4, .int a5])).length) Slot.unset).toArray = ls at hl ⊢
  obtain ⟨H, hHe⟩ : ∃ H, H = s.heap := ⟨_, rfl⟩
  rw [← hHe] at hP ⊢
  have hS : va_S A s.heap H [] := by rw [hHe]; exact hS
  have hl : lv_has ls 6 [(0, .ref h0), (1, .int a1), (2, .int a2), (3, .int a3), (4, .int a4), (5, .int a5)] := hl
  refine lv_aload_n hx hb dX13_feed_0 rfl (lv_at hl 0 rfl) ?_
  refine lv_iconst (v := 0) hx hb dX13_feed_1 (by decide) ?_
  refine kq_put [(1, .int 0), (2, .ref q2), (3, .int 0)] hts iX13 tyX13 tyX13_ok nmX13 hx hb hown hK hP hD hS 0 rfl rfl hJ 1 (by decide) (by decide) (hts _ (bP 135 rfl)) rfl (ty := .int) (by decide +kernel) (v := .int 0) rfl rfl dX13_feed_2 (fun f h => kJ_put h _ _ (by decide)) (fun H locs fs hJ hP hD hS => ?_)
  have hP : va_P (dC, dI) vwCl [(h0, .inr (13, fs)), (q2, .inl (c2, 6000, .inl f))] H := hP
  have hD : va_D A [(h0, .inr (13, fs)), (q2, .inl (c2, 6000, .inl f))] := hD
  refine lv_aload_n hx hb dX13_feed_5 rfl (lv_at hl 0 rfl) ?_
  refine va_get (D := (dC, dI)) (ci := 13) (v := .int 0) (C := RX13) (T := TX13) (N := 180) hx hb hts iX13 hown hK hP 0 rfl rfl 3 (by decide) (hts _ (bP 139 rfl)) (fun _ h9 => h9) (kJ_at hJ 2 rfl) dX13_feed_6 ?_
  refine lv_bipush (v := 20) hx hb dX13_feed_9 (by decide) ?_
  refine lv_iadd hx hb dX13_feed_11 ?_
  refine k_i (v := 20) (by decide) ?_
  refine lv_sipush (v := 6000) hx hb dX13_feed_12 (by decide) ?_
  refine lv_icmp_le (tgt := 20) hx hb dX13_feed_15 (by decide) (fun _ => ?_) (fun h => absurd h (by decide))
  refine lv_aload_n hx hb dX13_feed_20 rfl (lv_at hl 0 rfl) ?_
  refine lv_iload_n hx hb dX13_feed_21 rfl (lv_at hl 1 rfl) ?_
  have hPc := hP.sub (ws' := [(h0, .inr (13, fs)), (q2, .inl (c2, 6000, .inl f))]) [0, 1] rfl
  have hDc := hD.sub (ws' := [(h0, .inr (13, fs)), (q2, .inl (c2, 6000, .inl f))]) [0, 1] (by decide) rfl
  have hKc := hK.sub (tys' := [(c2, .int)]) [0] rfl
  have hFc := va_free (wc := [(h0, .inr (13, fs)), (q2, .inl (c2, 6000, .inl f))]) hD hS hA [0, 1] rfl
  refine va_callv (va_runV (As := [.int a1]) (rest := []) ⟨hx, hb, hml, hown, hts⟩ (c_M_put l dC dI h0 H.size fs q2 c2 f 0 a1) (cwV 1 hts (gV (y := yX13_put) _ 157 158 159 149 155 rfl rfl rfl rfl rfl) rfl rfl rfl (by decide +kernel) ⟨Nat.le_of_ble_eq_true rfl, Nat.le_of_ble_eq_true rfl⟩) ⟨fun a U g mk q => by obtain ⟨q0, q1, qJ, qn, qP, qK, qD⟩ := q; exact ⟨q0, q1, qJ, qn, qP, va_K.moved (u := U) (U := U.calling g mk a) (Vm.Alike.refl U.vm) qK, qD⟩, va_recv hKc hPc (ci := 13) (q0 := 0) rfl rfl, fun U hU hW => ⟨rfl, by rw [hU], kJ_sub hJ (by simp [nI_0]), by decide, by rw [hU]; exact hPc, va_K.moved hW.alike hKc, hDc.weaken (fun _ _ _ _ => trivial)⟩⟩ rfl rfl hl.1 rfl (lv_room (Nat.le_of_ble_eq_true rfl)) dX13_feed_22 ⟨Nat.le_of_ble_eq_true rfl, Nat.le_of_ble_eq_true rfl⟩) hS (fun q _ h => hFc q h) hFc (fun u t H1 locs ht hvm hw hB hz1 hk1 hS => ?_)
  obtain ⟨fs, f⟩ := u
  have hJ : kJ 180 [(3, .int (nI 4)), (2, .ref q2)] fs := hw
  clear hw
  obtain ⟨hP1, hK1, hD1⟩ := hB
  rw [ht] at hP1
  have hK1 := va_K.moved hvm.symm hK1
  obtain ⟨hP, hD⟩ := va_join (wr := []) (w1 := [(h0, .inr (13, fs)), (q2, .inl (c2, 6000, .inl f))]) hP hD [0, 1] [] rfl rfl (by decide) (by decide) hk1 hFc hP1 hD1
  have hK := (hK.sub (tys' := []) [] rfl).app hK1
  clear hPc hDc hKc hFc hP1 hK1 hD1 hk1 hz1
  generalize H1 = H at hP hS ⊢
  have hP : va_P (dC, dI) vwCl [(h0, .inr (13, fs)), (q2, .inl (c2, 6000, .inl f))] H := hP
  have hD : va_D A [(h0, .inr (13, fs)), (q2, .inl (c2, 6000, .inl f))] := hD
  have hK : va_K (dC, dI) vwCl [(c2, .int)] s := hK
  refine lv_aload_n hx hb dX13_feed_25 rfl (lv_at hl 0 rfl) ?_
  refine lv_iload_n hx hb dX13_feed_26 rfl (lv_at hl 2 rfl) ?_
  have hPc := hP.sub (ws' := [(h0, .inr (13, fs)), (q2, .inl (c2, 6000, .inl f))]) [0, 1] rfl
  have hDc := hD.sub (ws' := [(h0, .inr (13, fs)), (q2, .inl (c2, 6000, .inl f))]) [0, 1] (by decide) rfl
  have hKc := hK.sub (tys' := [(c2, .int)]) [0] rfl
  have hFc := va_free (wc := [(h0, .inr (13, fs)), (q2, .inl (c2, 6000, .inl f))]) hD hS hA [0, 1] rfl
  refine va_callv (va_runV (As := [.int a2]) (rest := []) ⟨hx, hb, hml, hown, hts⟩ (c_M_put l dC dI h0 H.size fs q2 c2 f 4 a2) (cwV 1 hts (gV (y := yX13_put) _ 157 158 159 149 155 rfl rfl rfl rfl rfl) rfl rfl rfl (by decide +kernel) ⟨Nat.le_of_ble_eq_true rfl, Nat.le_of_ble_eq_true rfl⟩) ⟨fun a U g mk q => by obtain ⟨q0, q1, qJ, qn, qP, qK, qD⟩ := q; exact ⟨q0, q1, qJ, qn, qP, va_K.moved (u := U) (U := U.calling g mk a) (Vm.Alike.refl U.vm) qK, qD⟩, va_recv hKc hPc (ci := 13) (q0 := 0) rfl rfl, fun U hU hW => ⟨rfl, by rw [hU], kJ_sub hJ (by simp [nI_0]), by decide, by rw [hU]; exact hPc, va_K.moved hW.alike hKc, hDc.weaken (fun _ _ _ _ => trivial)⟩⟩ rfl rfl hl.1 rfl (lv_room (Nat.le_of_ble_eq_true rfl)) dX13_feed_27 ⟨Nat.le_of_ble_eq_true rfl, Nat.le_of_ble_eq_true rfl⟩) hS (fun q _ h => hFc q h) hFc (fun u t H1 locs ht hvm hw hB hz1 hk1 hS => ?_)
  obtain ⟨fs, f⟩ := u
  have hJ : kJ 180 [(3, .int (nI 8)), (2, .ref q2)] fs := hw
  clear hw
  obtain ⟨hP1, hK1, hD1⟩ := hB
  rw [ht] at hP1
  have hK1 := va_K.moved hvm.symm hK1
  obtain ⟨hP, hD⟩ := va_join (wr := []) (w1 := [(h0, .inr (13, fs)), (q2, .inl (c2, 6000, .inl f))]) hP hD [0, 1] [] rfl rfl (by decide) (by decide) hk1 hFc hP1 hD1
  have hK := (hK.sub (tys' := []) [] rfl).app hK1
  clear hPc hDc hKc hFc hP1 hK1 hD1 hk1 hz1
  generalize H1 = H at hP hS ⊢
  have hP : va_P (dC, dI) vwCl [(h0, .inr (13, fs)), (q2, .inl (c2, 6000, .inl f))] H := hP
  have hD : va_D A [(h0, .inr (13, fs)), (q2, .inl (c2, 6000, .inl f))] := hD
  have hK : va_K (dC, dI) vwCl [(c2, .int)] s := hK
  refine lv_aload_n hx hb dX13_feed_30 rfl (lv_at hl 0 rfl) ?_
  refine lv_iload_n hx hb dX13_feed_31 rfl (lv_at hl 3 rfl) ?_
  have hPc := hP.sub (ws' := [(h0, .inr (13, fs)), (q2, .inl (c2, 6000, .inl f))]) [0, 1] rfl
  have hDc := hD.sub (ws' := [(h0, .inr (13, fs)), (q2, .inl (c2, 6000, .inl f))]) [0, 1] (by decide) rfl
  have hKc := hK.sub (tys' := [(c2, .int)]) [0] rfl
  have hFc := va_free (wc := [(h0, .inr (13, fs)), (q2, .inl (c2, 6000, .inl f))]) hD hS hA [0, 1] rfl
  refine va_callv (va_runV (As := [.int a3]) (rest := []) ⟨hx, hb, hml, hown, hts⟩ (c_M_put l dC dI h0 H.size fs q2 c2 f 8 a3) (cwV 1 hts (gV (y := yX13_put) _ 157 158 159 149 155 rfl rfl rfl rfl rfl) rfl rfl rfl (by decide +kernel) ⟨Nat.le_of_ble_eq_true rfl, Nat.le_of_ble_eq_true rfl⟩) ⟨fun a U g mk q => by obtain ⟨q0, q1, qJ, qn, qP, qK, qD⟩ := q; exact ⟨q0, q1, qJ, qn, qP, va_K.moved (u := U) (U := U.calling g mk a) (Vm.Alike.refl U.vm) qK, qD⟩, va_recv hKc hPc (ci := 13) (q0 := 0) rfl rfl, fun U hU hW => ⟨rfl, by rw [hU], kJ_sub hJ (by simp [nI_0]), by decide, by rw [hU]; exact hPc, va_K.moved hW.alike hKc, hDc.weaken (fun _ _ _ _ => trivial)⟩⟩ rfl rfl hl.1 rfl (lv_room (Nat.le_of_ble_eq_true rfl)) dX13_feed_32 ⟨Nat.le_of_ble_eq_true rfl, Nat.le_of_ble_eq_true rfl⟩) hS (fun q _ h => hFc q h) hFc (fun u t H1 locs ht hvm hw hB hz1 hk1 hS => ?_)
  obtain ⟨fs, f⟩ := u
  have hJ : kJ 180 [(3, .int (nI 12)), (2, .ref q2)] fs := hw
  clear hw
  obtain ⟨hP1, hK1, hD1⟩ := hB
  rw [ht] at hP1
  have hK1 := va_K.moved hvm.symm hK1
  obtain ⟨hP, hD⟩ := va_join (wr := []) (w1 := [(h0, .inr (13, fs)), (q2, .inl (c2, 6000, .inl f))]) hP hD [0, 1] [] rfl rfl (by decide) (by decide) hk1 hFc hP1 hD1
  have hK := (hK.sub (tys' := []) [] rfl).app hK1
  clear hPc hDc hKc hFc hP1 hK1 hD1 hk1 hz1
  generalize H1 = H at hP hS ⊢
  have hP : va_P (dC, dI) vwCl [(h0, .inr (13, fs)), (q2, .inl (c2, 6000, .inl f))] H := hP
  have hD : va_D A [(h0, .inr (13, fs)), (q2, .inl (c2, 6000, .inl f))] := hD
  have hK : va_K (dC, dI) vwCl [(c2, .int)] s := hK
  refine lv_aload_n hx hb dX13_feed_35 rfl (lv_at hl 0 rfl) ?_
  refine lv_iload hx hb dX13_feed_36 (lv_at hl 4 rfl) ?_
  have hPc := hP.sub (ws' := [(h0, .inr (13, fs)), (q2, .inl (c2, 6000, .inl f))]) [0, 1] rfl
  have hDc := hD.sub (ws' := [(h0, .inr (13, fs)), (q2, .inl (c2, 6000, .inl f))]) [0, 1] (by decide) rfl
  have hKc := hK.sub (tys' := [(c2, .int)]) [0] rfl
  have hFc := va_free (wc := [(h0, .inr (13, fs)), (q2, .inl (c2, 6000, .inl f))]) hD hS hA [0, 1] rfl
  refine va_callv (va_runV (As := [.int a4]) (rest := []) ⟨hx, hb, hml, hown, hts⟩ (c_M_put l dC dI h0 H.size fs q2 c2 f 12 a4) (cwV 1 hts (gV (y := yX13_put) _ 157 158 159 149 155 rfl rfl rfl rfl rfl) rfl rfl rfl (by decide +kernel) ⟨Nat.le_of_ble_eq_true rfl, Nat.le_of_ble_eq_true rfl⟩) ⟨fun a U g mk q => by obtain ⟨q0, q1, qJ, qn, qP, qK, qD⟩ := q; exact ⟨q0, q1, qJ, qn, qP, va_K.moved (u := U) (U := U.calling g mk a) (Vm.Alike.refl U.vm) qK, qD⟩, va_recv hKc hPc (ci := 13) (q0 := 0) rfl rfl, fun U hU hW => ⟨rfl, by rw [hU], kJ_sub hJ (by simp [nI_0]), by decide, by rw [hU]; exact hPc, va_K.moved hW.alike hKc, hDc.weaken (fun _ _ _ _ => trivial)⟩⟩ rfl rfl hl.1 rfl (lv_room (Nat.le_of_ble_eq_true rfl)) dX13_feed_38 ⟨Nat.le_of_ble_eq_true rfl, Nat.le_of_ble_eq_true rfl⟩) hS (fun q _ h => hFc q h) hFc (fun u t H1 locs ht hvm hw hB hz1 hk1 hS => ?_)
  obtain ⟨fs, f⟩ := u
  have hJ : kJ 180 [(3, .int (nI 16)), (2, .ref q2)] fs := hw
  clear hw
  obtain ⟨hP1, hK1, hD1⟩ := hB
  rw [ht] at hP1
  have hK1 := va_K.moved hvm.symm hK1
  obtain ⟨hP, hD⟩ := va_join (wr := []) (w1 := [(h0, .inr (13, fs)), (q2, .inl (c2, 6000, .inl f))]) hP hD [0, 1] [] rfl rfl (by decide) (by decide) hk1 hFc hP1 hD1
  have hK := (hK.sub (tys' := []) [] rfl).app hK1
  clear hPc hDc hKc hFc hP1 hK1 hD1 hk1 hz1
  generalize H1 = H at hP hS ⊢
  have hP : va_P (dC, dI) vwCl [(h0, .inr (13, fs)), (q2, .inl (c2, 6000, .inl f))] H := hP
  have hD : va_D A [(h0, .inr (13, fs)), (q2, .inl (c2, 6000, .inl f))] := hD
  have hK : va_K (dC, dI) vwCl [(c2, .int)] s := hK
  refine lv_aload_n hx hb dX13_feed_41 rfl (lv_at hl 0 rfl) ?_
  refine lv_iload hx hb dX13_feed_42 (lv_at hl 5 rfl) ?_
  have hPc := hP.sub (ws' := [(h0, .inr (13, fs)), (q2, .inl (c2, 6000, .inl f))]) [0, 1] rfl
  have hDc := hD.sub (ws' := [(h0, .inr (13, fs)), (q2, .inl (c2, 6000, .inl f))]) [0, 1] (by decide) rfl
  have hKc := hK.sub (tys' := [(c2, .int)]) [0] rfl
  have hFc := va_free (wc := [(h0, .inr (13, fs)), (q2, .inl (c2, 6000, .inl f))]) hD hS hA [0, 1] rfl
  refine va_callv (va_runV (As := [.int a5]) (rest := []) ⟨hx, hb, hml, hown, hts⟩ (c_M_put l dC dI h0 H.size fs q2 c2 f 16 a5) (cwV 1 hts (gV (y := yX13_put) _ 157 158 159 149 155 rfl rfl rfl rfl rfl) rfl rfl rfl (by decide +kernel) ⟨Nat.le_of_ble_eq_true rfl, Nat.le_of_ble_eq_true rfl⟩) ⟨fun a U g mk q => by obtain ⟨q0, q1, qJ, qn, qP, qK, qD⟩ := q; exact ⟨q0, q1, qJ, qn, qP, va_K.moved (u := U) (U := U.calling g mk a) (Vm.Alike.refl U.vm) qK, qD⟩, va_recv hKc hPc (ci := 13) (q0 := 0) rfl rfl, fun U hU hW => ⟨rfl, by rw [hU], kJ_sub hJ (by simp [nI_0]), by decide, by rw [hU]; exact hPc, va_K.moved hW.alike hKc, hDc.weaken (fun _ _ _ _ => trivial)⟩⟩ rfl rfl hl.1 rfl (lv_room (Nat.le_of_ble_eq_true rfl)) dX13_feed_44 ⟨Nat.le_of_ble_eq_true rfl, Nat.le_of_ble_eq_true rfl⟩) hS (fun q _ h => hFc q h) hFc (fun u t H1 locs ht hvm hw hB hz1 hk1 hS => ?_)
  obtain ⟨fs, f⟩ := u
  have hJ : kJ 180 [(3, .int (nI 20)), (2, .ref q2)] fs := hw
  clear hw
  obtain ⟨hP1, hK1, hD1⟩ := hB
  rw [ht] at hP1
  have hK1 := va_K.moved hvm.symm hK1
  obtain ⟨hP, hD⟩ := va_join (wr := []) (w1 := [(h0, .inr (13, fs)), (q2, .inl (c2, 6000, .inl f))]) hP hD [0, 1] [] rfl rfl (by decide) (by decide) hk1 hFc hP1 hD1
  have hK := (hK.sub (tys' := []) [] rfl).app hK1
  clear hPc hDc hKc hFc hP1 hK1 hD1 hk1 hz1
  generalize H1 = H at hP hS ⊢
  have hP : va_P (dC, dI) vwCl [(h0, .inr (13, fs)), (q2, .inl (c2, 6000, .inl f))] H := hP
  have hD : va_D A [(h0, .inr (13, fs)), (q2, .inl (c2, 6000, .inl f))] := hD
  have hK : va_K (dC, dI) vwCl [(c2, .int)] s := hK
  refine lv_aload_n hx hb dX13_feed_47 rfl (lv_at hl 0 rfl) ?_
  refine va_get (D := (dC, dI)) (ci := 13) (v := .int (nI 20)) (C := RX13) (T := TX13) (N := 180) hx hb hts iX13 hown hK hP 0 rfl rfl 3 (by decide) (hts _ (bP 139 rfl)) (fun _ h9 => h9) (kJ_at hJ 0 rfl) dX13_feed_48 ?_
  exact W.iret (v := nI 20) hx hb hr (fun t ht hW => ⟨⟨nI 20, (), rfl, rfl, trivial⟩, hS.F ht⟩) hS.2.2 dX13_feed_51

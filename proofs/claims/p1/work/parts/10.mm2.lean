/-! More of the reference on a fresh object -/
theorem dX13_thrown_0 : decode cX13_thrown 0 = .ok (.aload_n 0, 1) := by decide +kernel
theorem dX13_thrown_1 : decode cX13_thrown 1 = .ok (.getfield 451, 3) := by decide +kernel
theorem dX13_thrown_4 : decode cX13_thrown 4 = .ok (.ireturn, 1) := by decide +kernel
theorem dX13_back_0 : decode cX13_back 0 = .ok (.aload_n 0, 1) := by decide +kernel
theorem dX13_back_1 : decode cX13_back 1 = .ok (.iconst 0, 1) := by decide +kernel
theorem dX13_back_2 : decode cX13_back 2 = .ok (.putfield 451, 3) := by decide +kernel
theorem dX13_back_5 : decode cX13_back 5 = .ok (.iload_n 1, 1) := by decide +kernel
theorem dX13_back_6 : decode cX13_back 6 = .ok (.ifCond .lt 11, 3) := by decide +kernel
theorem dX13_back_9 : decode cX13_back 9 = .ok (.iload_n 1, 1) := by decide +kernel
theorem dX13_back_10 : decode cX13_back 10 = .ok (.aload_n 0, 1) := by decide +kernel
theorem dX13_back_11 : decode cX13_back 11 = .ok (.getfield 455, 3) := by decide +kernel
theorem dX13_back_14 : decode cX13_back 14 = .ok (.if_icmp .le 5, 3) := by decide +kernel
theorem dX13_back_17 : decode cX13_back 17 = .ok (.iconst (-1), 1) := by decide +kernel
theorem dX13_back_18 : decode cX13_back 18 = .ok (.ireturn, 1) := by decide +kernel
theorem dX13_back_19 : decode cX13_back 19 = .ok (.aload_n 0, 1) := by decide +kernel
theorem dX13_back_20 : decode cX13_back 20 = .ok (.dup, 1) := by decide +kernel
theorem dX13_back_21 : decode cX13_back 21 = .ok (.getfield 455, 3) := by decide +kernel
theorem dX13_back_24 : decode cX13_back 24 = .ok (.iload_n 1, 1) := by decide +kernel
theorem dX13_back_25 : decode cX13_back 25 = .ok (.isub, 1) := by decide +kernel
theorem dX13_back_26 : decode cX13_back 26 = .ok (.putfield 455, 3) := by decide +kernel
theorem dX13_back_29 : decode cX13_back 29 = .ok (.aload_n 0, 1) := by decide +kernel
theorem dX13_back_30 : decode cX13_back 30 = .ok (.getfield 455, 3) := by decide +kernel
theorem dX13_back_33 : decode cX13_back 33 = .ok (.ireturn, 1) := by decide +kernel
theorem dX13_state_0 : decode cX13_state 0 = .ok (.aload_n 0, 1) := by decide +kernel
theorem dX13_state_1 : decode cX13_state 1 = .ok (.getfield 1122, 3) := by decide +kernel
theorem dX13_state_4 : decode cX13_state 4 = .ok (.ifCond .ne 5, 3) := by decide +kernel
theorem dX13_state_7 : decode cX13_state 7 = .ok (.iconst 0, 1) := by decide +kernel
theorem dX13_state_8 : decode cX13_state 8 = .ok (.ireturn, 1) := by decide +kernel
theorem dX13_begin_0 : decode cX13_begin 0 = .ok (.aload_n 0, 1) := by decide +kernel
theorem dX13_begin_1 : decode cX13_begin 1 = .ok (.aload_n 0, 1) := by decide +kernel
theorem dX13_begin_2 : decode cX13_begin 2 = .ok (.getfield 1119, 3) := by decide +kernel
theorem dX13_begin_5 : decode cX13_begin 5 = .ok (.ifCond .eq 7, 3) := by decide +kernel
theorem dX13_begin_12 : decode cX13_begin 12 = .ok (.iconst 1, 1) := by decide +kernel
theorem dX13_begin_13 : decode cX13_begin 13 = .ok (.putfield 451, 3) := by decide +kernel
theorem dX13_begin_16 : decode cX13_begin 16 = .ok (.aload_n 0, 1) := by decide +kernel
theorem dX13_begin_17 : decode cX13_begin 17 = .ok (.getfield 451, 3) := by decide +kernel
theorem dX13_begin_20 : decode cX13_begin 20 = .ok (.ifCond .le 4, 3) := by decide +kernel
theorem dX13_begin_23 : decode cX13_begin 23 = .ok (.return_, 1) := by decide +kernel
theorem dX13_run_0 : decode cX13_run 0 = .ok (.aload_n 0, 1) := by decide +kernel
theorem dX13_run_1 : decode cX13_run 1 = .ok (.iload_n 1, 1) := by decide +kernel
theorem dX13_run_2 : decode cX13_run 2 = .ok (.ifCond .lt 10, 3) := by decide +kernel
theorem dX13_run_5 : decode cX13_run 5 = .ok (.iload_n 1, 1) := by decide +kernel
theorem dX13_run_6 : decode cX13_run 6 = .ok (.sipush 2000, 3) := by decide +kernel
theorem dX13_run_9 : decode cX13_run 9 = .ok (.if_icmp .le 7, 3) := by decide +kernel
theorem dX13_run_12 : decode cX13_run 12 = .ok (.iconst 1, 1) := by decide +kernel
theorem dX13_run_13 : decode cX13_run 13 = .ok (.goto 15, 3) := by decide +kernel
theorem dX13_run_16 : decode cX13_run 16 = .ok (.aload_n 0, 1) := by decide +kernel
theorem dX13_run_17 : decode cX13_run 17 = .ok (.getfield 1122, 3) := by decide +kernel
theorem dX13_run_20 : decode cX13_run 20 = .ok (.ifCond .ne 7, 3) := by decide +kernel
theorem dX13_run_23 : decode cX13_run 23 = .ok (.iconst 2, 1) := by decide +kernel
theorem dX13_run_24 : decode cX13_run 24 = .ok (.goto 4, 3) := by decide +kernel
theorem dX13_run_28 : decode cX13_run 28 = .ok (.putfield 451, 3) := by decide +kernel
theorem dX13_run_31 : decode cX13_run 31 = .ok (.aload_n 0, 1) := by decide +kernel
theorem dX13_run_32 : decode cX13_run 32 = .ok (.getfield 451, 3) := by decide +kernel
theorem dX13_run_35 : decode cX13_run 35 = .ok (.ifCond .le 5, 3) := by decide +kernel
theorem dX13_run_38 : decode cX13_run 38 = .ok (.iconst 0, 1) := by decide +kernel
theorem dX13_run_39 : decode cX13_run 39 = .ok (.ireturn, 1) := by decide +kernel
theorem dX13_count_0 : decode cX13_count 0 = .ok (.aload_n 0, 1) := by decide +kernel
theorem dX13_count_1 : decode cX13_count 1 = .ok (.iconst 0, 1) := by decide +kernel
theorem dX13_count_2 : decode cX13_count 2 = .ok (.putfield 451, 3) := by decide +kernel
theorem dX13_count_5 : decode cX13_count 5 = .ok (.iload_n 1, 1) := by decide +kernel
theorem dX13_count_6 : decode cX13_count 6 = .ok (.iconst 5, 1) := by decide +kernel
theorem dX13_count_7 : decode cX13_count 7 = .ok (.if_icmp .lt 23, 3) := by decide +kernel
theorem dX13_count_10 : decode cX13_count 10 = .ok (.iload_n 1, 1) := by decide +kernel
theorem dX13_count_11 : decode cX13_count 11 = .ok (.bipush 13, 2) := by decide +kernel
theorem dX13_count_13 : decode cX13_count 13 = .ok (.if_icmp .gt 17, 3) := by decide +kernel
theorem dX13_count_16 : decode cX13_count 16 = .ok (.iload_n 1, 1) := by decide +kernel
theorem dX13_count_17 : decode cX13_count 17 = .ok (.iconst 4, 1) := by decide +kernel
theorem dX13_count_18 : decode cX13_count 18 = .ok (.if_icmp .eq 12, 3) := by decide +kernel
theorem dX13_count_21 : decode cX13_count 21 = .ok (.aload_n 0, 1) := by decide +kernel
theorem dX13_count_22 : decode cX13_count 22 = .ok (.getfield 1122, 3) := by decide +kernel
theorem dX13_count_25 : decode cX13_count 25 = .ok (.ifCond .ne 5, 3) := by decide +kernel
theorem dX13_count_28 : decode cX13_count 28 = .ok (.iconst 0, 1) := by decide +kernel
theorem dX13_count_29 : decode cX13_count 29 = .ok (.ireturn, 1) := by decide +kernel
theorem dX13_count_30 : decode cX13_count 30 = .ok (.iload_n 1, 1) := by decide +kernel
theorem dX13_count_31 : decode cX13_count 31 = .ok (.tableswitch 211 0 13 #[69, 85, 101, 117, 122, 127, 132, 137, 142, 147, 152, 157, 162, 167], 69) := by decide +kernel
theorem dX13_count_100 : decode cX13_count 100 = .ok (.aload_n 0, 1) := by decide +kernel
theorem dX13_count_101 : decode cX13_count 101 = .ok (.getfield 1119, 3) := by decide +kernel
theorem dX13_count_104 : decode cX13_count 104 = .ok (.ifCond .eq 10, 3) := by decide +kernel
theorem dX13_count_114 : decode cX13_count 114 = .ok (.iconst 0, 1) := by decide +kernel
theorem dX13_count_115 : decode cX13_count 115 = .ok (.ireturn, 1) := by decide +kernel
theorem dX13_count_116 : decode cX13_count 116 = .ok (.aload_n 0, 1) := by decide +kernel
theorem dX13_count_117 : decode cX13_count 117 = .ok (.getfield 1119, 3) := by decide +kernel
theorem dX13_count_120 : decode cX13_count 120 = .ok (.ifCond .eq 10, 3) := by decide +kernel
theorem dX13_count_130 : decode cX13_count 130 = .ok (.iconst 0, 1) := by decide +kernel
theorem dX13_count_131 : decode cX13_count 131 = .ok (.ireturn, 1) := by decide +kernel
theorem dX13_count_132 : decode cX13_count 132 = .ok (.aload_n 0, 1) := by decide +kernel
theorem dX13_count_133 : decode cX13_count 133 = .ok (.getfield 1119, 3) := by decide +kernel
theorem dX13_count_136 : decode cX13_count 136 = .ok (.ifCond .eq 10, 3) := by decide +kernel
theorem dX13_count_146 : decode cX13_count 146 = .ok (.iconst 0, 1) := by decide +kernel
theorem dX13_count_147 : decode cX13_count 147 = .ok (.ireturn, 1) := by decide +kernel
theorem dX13_count_148 : decode cX13_count 148 = .ok (.aload_n 0, 1) := by decide +kernel
theorem dX13_count_149 : decode cX13_count 149 = .ok (.getfield 455, 3) := by decide +kernel
theorem dX13_count_152 : decode cX13_count 152 = .ok (.ireturn, 1) := by decide +kernel
theorem dX13_count_153 : decode cX13_count 153 = .ok (.aload_n 0, 1) := by decide +kernel
theorem dX13_count_154 : decode cX13_count 154 = .ok (.invokevirtual 1501, 3) := by decide +kernel
theorem dX13_count_157 : decode cX13_count 157 = .ok (.ireturn, 1) := by decide +kernel
theorem dX13_count_242 : decode cX13_count 242 = .ok (.iconst (-1), 1) := by decide +kernel
theorem dX13_count_243 : decode cX13_count 243 = .ok (.ireturn, 1) := by decide +kernel
theorem dX13_process__0 : decode cX13_process_ 0 = .ok (.aload_n 0, 1) := by decide +kernel
theorem dX13_process__1 : decode cX13_process_ 1 = .ok (.iconst 0, 1) := by decide +kernel
theorem dX13_process__2 : decode cX13_process_ 2 = .ok (.putfield 451, 3) := by decide +kernel
theorem dX13_process__5 : decode cX13_process_ 5 = .ok (.aload_n 0, 1) := by decide +kernel
theorem dX13_process__6 : decode cX13_process_ 6 = .ok (.getfield 1122, 3) := by decide +kernel
theorem dX13_process__9 : decode cX13_process_ 9 = .ok (.ifCond .eq 11, 3) := by decide +kernel
theorem dX13_process__20 : decode cX13_process_ 20 = .ok (.iconst (-1), 1) := by decide +kernel
theorem dX13_process__21 : decode cX13_process_ 21 = .ok (.istore_n 3, 1) := by decide +kernel
theorem dX13_process__22 : decode cX13_process_ 22 = .ok (.iload_n 3, 1) := by decide +kernel
theorem dX13_process__23 : decode cX13_process_ 23 = .ok (.ifCond .ge 5, 3) := by decide +kernel
theorem dX13_process__26 : decode cX13_process_ 26 = .ok (.iconst (-1), 1) := by decide +kernel
theorem dX13_process__27 : decode cX13_process_ 27 = .ok (.ireturn, 1) := by decide +kernel
set_option maxHeartbeats 4000000 in
set_option maxRecDepth 100000 in
/-- process_ -/
theorem c_M_process_ (l : Launch) (dC : Nat → ClassId) (dI : Nat → Nat → Nat) (h0 sz : Nat) (fs : List Value) (a1 : Int32) (a2 : Int32) : Met l yX13_process_ (.code yX13_process_ cX13_process_ 5 (some .int) :: wP) ({ frames := 0, cells := 0, slots := 0, locals := 0 }) (va_Pc [.ref h0, .int a1, .int a2] (fun U => U.heap.size = sz ∧ kJ 180 [(3, .int 0), (110, .int 0), (123, .int 0)] fs ∧ va_P (dC, dI) vwCl [(h0, .inr (13, fs))] U.heap ∧ va_K (dC, dI) vwCl [] U ∧ va_D (fun _ => True) [(h0, .inr (13, fs))])) (va_Qi (fun r (_ : Unit) => r = -1) (fun (_ : Unit) (_ : State) => True) (va_A [(h0, .inr (13, fs))] sz)) 0 0 (va_A [(h0, .inr (13, fs))] sz) := by
  refine Met.ofW (cc := cX13_process_) (maxL := 5) (ret := (some .int)) (by decide) rfl ?_
  intro p e s m args below meth c s₁ B hml hv
  obtain ⟨rfl, hsz, hJ, hP, hK, hD0⟩ := hv
  have hx := B.exec
  have hb := B.bytes
  have hr := B.returns
  have hts := atoms_spec (ws := .code yX13_process_ cX13_process_ 5 (some .int) :: wP) B.pre
  have hown : s.vm.findClass RX13 = some m.cls := findClass_of_methodNamed B.named
  subst hsz
  have hD := hD0.self (sz := s.heap.size)
  generalize hAe : va_A [(h0, .inr (13, fs))] s.heap.size = A at hD ⊢
  have hA : ∀ q : Nat, s.heap.size ≤ q → A q := fun q h => by rw [← hAe]; exact Or.inr h
  have hS : va_S A s.heap s.heap [] := va_S.rf
  have hl := lv_entry ([.ref h0, .int a1, .int a2]) (n := 5) (Nat.le_of_ble_eq_true rfl)
  rw [lg_entry_eq]
  generalize (lg_sl ([.ref h0, .int a1, .int a2]) ++ List.replicate (5 - (lg_sl ([.ref h0, .int a1, .int a2])).length) Slot.unset).toArray = ls at hl ⊢
  obtain ⟨H, hHe⟩ : ∃ H, H = s.heap := ⟨_, rfl⟩
  rw [← hHe] at hP ⊢
  have hS : va_S A s.heap H [] := by rw [hHe]; exact hS
  have hl : lv_has ls 5 [(0, .ref h0), (1, .int a1), (2, .int a2)] := hl
  refine lv_aload_n hx hb dX13_process__0 rfl (lv_at hl 0 rfl) ?_
  refine lv_iconst (v := 0) hx hb dX13_process__1 (by decide) ?_
  refine kq_put [(1, .int 0), (3, .int 0), (110, .int 0), (123, .int 0)] hts iX13 tyX13 tyX13_ok nmX13 hx hb hown hK hP hD hS 0 rfl rfl hJ 1 (by decide) (by decide) (hts _ (bP 135 rfl)) rfl (ty := .int) (by decide +kernel) (v := .int 0) rfl rfl dX13_process__2 (fun f h => kJ_put h _ _ (by decide)) (fun H locs fs hJ hP hD hS => ?_)
  have hP : va_P (dC, dI) vwCl [(h0, .inr (13, fs))] H := hP
  have hD : va_D A [(h0, .inr (13, fs))] := hD
  refine lv_aload_n hx hb dX13_process__5 rfl (lv_at hl 0 rfl) ?_
  refine va_get (D := (dC, dI)) (ci := 13) (v := .int 0) (C := RX13) (T := TX13) (N := 180) hx hb hts iX13 hown hK hP 0 rfl rfl 123 (by decide) (hts _ (bP 136 rfl)) (fun _ h9 => h9) (kJ_at hJ 3 rfl) dX13_process__6 ?_
  refine lv_if_eq (tgt := 20) hx hb dX13_process__9 (by decide) (fun _ => ?_) (fun h => absurd h (by decide))
  refine lv_iconst (v := (-1)) hx hb dX13_process__20 (by decide) ?_
  refine lv_istore_n (lv' := [(3, .int ((-1))), (0, .ref h0), (1, .int a1), (2, .int a2)]) hx hb dX13_process__21 rfl hl (by decide) rfl (fun ls hl => ?_)
  refine lv_iload_n hx hb dX13_process__22 rfl (lv_at hl 0 rfl) ?_
  refine lv_if_ge (tgt := 28) hx hb dX13_process__23 (by decide) (fun h => absurd h (by decide)) (fun _ => ?_)
  refine lv_iconst (v := (-1)) hx hb dX13_process__26 (by decide) ?_
  exact W.iret (v := (-1)) hx hb hr (fun t ht hW => ⟨⟨(-1), (), rfl, rfl, trivial⟩, hS.F ht⟩) hS.2.2 dX13_process__27
set_option maxHeartbeats 4000000 in
set_option maxRecDepth 100000 in
/-- back -/
theorem c_M_back (l : Launch) (dC : Nat → ClassId) (dI : Nat → Nat → Nat) (h0 sz : Nat) (fs : List Value) (a1 : Int32) : Met l yX13_back (.code yX13_back cX13_back 2 (some .int) :: wP) ({ frames := 0, cells := 0, slots := 0, locals := 0 }) (va_Pc [.ref h0, .int a1] (fun U => U.heap.size = sz ∧ kJ 180 [(3, .int 0), (110, .int 0), (123, .int 0)] fs ∧ va_P (dC, dI) vwCl [(h0, .inr (13, fs))] U.heap ∧ va_K (dC, dI) vwCl [] U ∧ va_D (fun _ => True) [(h0, .inr (13, fs))])) (va_Qi (fun r (_ : Unit) => r = bk a1) (fun (_ : Unit) (_ : State) => True) (va_A [(h0, .inr (13, fs))] sz)) 0 0 (va_A [(h0, .inr (13, fs))] sz) := by
  refine Met.ofW (cc := cX13_back) (maxL := 2) (ret := (some .int)) (by decide) rfl ?_
  intro p e s m args below meth c s₁ B hml hv
  obtain ⟨rfl, hsz, hJ, hP, hK, hD0⟩ := hv
  have hx := B.exec
  have hb := B.bytes
  have hr := B.returns
  have hts := atoms_spec (ws := .code yX13_back cX13_back 2 (some .int) :: wP) B.pre
  have hown : s.vm.findClass RX13 = some m.cls := findClass_of_methodNamed B.named
  subst hsz
  have hD := hD0.self (sz := s.heap.size)
  generalize hAe : va_A [(h0, .inr (13, fs))] s.heap.size = A at hD ⊢
  have hA : ∀ q : Nat, s.heap.size ≤ q → A q := fun q h => by rw [← hAe]; exact Or.inr h
  have hS : va_S A s.heap s.heap [] := va_S.rf
  have hl := lv_entry ([.ref h0, .int a1]) (n := 2) (Nat.le_of_ble_eq_true rfl)
  rw [lg_entry_eq]
  generalize (lg_sl ([.ref h0, .int a1]) ++ List.replicate (2 - (lg_sl ([.ref h0, .int a1])).length) Slot.unset).toArray = ls at hl ⊢
  obtain ⟨H, hHe⟩ : ∃ H, H = s.heap := ⟨_, rfl⟩
  rw [← hHe] at hP ⊢
  have hS : va_S A s.heap H [] := by rw [hHe]; exact hS
  have hl : lv_has ls 2 [(0, .ref h0), (1, .int a1)] := hl
  refine lv_aload_n hx hb dX13_back_0 rfl (lv_at hl 0 rfl) ?_
  refine lv_iconst (v := 0) hx hb dX13_back_1 (by decide) ?_
  refine kq_put [(1, .int 0), (3, .int 0), (110, .int 0), (123, .int 0)] hts iX13 tyX13 tyX13_ok nmX13 hx hb hown hK hP hD hS 0 rfl rfl hJ 1 (by decide) (by decide) (hts _ (bP 135 rfl)) rfl (ty := .int) (by decide +kernel) (v := .int 0) rfl rfl dX13_back_2 (fun f h => kJ_put h _ _ (by decide)) (fun H locs fs hJ hP hD hS => ?_)
  have hP : va_P (dC, dI) vwCl [(h0, .inr (13, fs))] H := hP
  have hD : va_D A [(h0, .inr (13, fs))] := hD
  refine lv_iload_n hx hb dX13_back_5 rfl (lv_at hl 1 rfl) ?_
  refine lv_if_lt (tgt := 17) hx hb dX13_back_6 (by decide) (fun h6 => ?_) (fun h6 => ?_)
  · refine lv_iconst (v := (-1)) hx hb dX13_back_17 (by decide) ?_
    exact W.iret (v := (-1)) hx hb hr (fun t ht hW => ⟨⟨(-1), (), rfl, by first | exact bk1 h6 | exact bk2 h6 h14 ez1 | exact bk3 h14, trivial⟩, hS.F ht⟩) hS.2.2 dX13_back_18
  · refine lv_iload_n hx hb dX13_back_9 rfl (lv_at hl 1 rfl) ?_
    refine lv_aload_n hx hb dX13_back_10 rfl (lv_at hl 0 rfl) ?_
    refine va_get (D := (dC, dI)) (ci := 13) (v := .int 0) (C := RX13) (T := TX13) (N := 180) hx hb hts iX13 hown hK hP 0 rfl rfl 3 (by decide) (hts _ (bP 139 rfl)) (fun _ h9 => h9) (kJ_at hJ 1 rfl) dX13_back_11 ?_
    refine lv_icmp_le (tgt := 19) hx hb dX13_back_14 (by decide) (fun h14 => ?_) (fun h14 => ?_)
    · refine lv_aload_n hx hb dX13_back_19 rfl (lv_at hl 0 rfl) ?_
      refine lv_dup hx hb dX13_back_20 rfl ?_
      refine va_get (D := (dC, dI)) (ci := 13) (v := .int 0) (C := RX13) (T := TX13) (N := 180) hx hb hts iX13 hown hK hP 0 rfl rfl 3 (by decide) (hts _ (bP 139 rfl)) (fun _ h9 => h9) (kJ_at hJ 1 rfl) dX13_back_21 ?_
      refine lv_iload_n hx hb dX13_back_24 rfl (lv_at hl 1 rfl) ?_
      refine lv_isub hx hb dX13_back_25 ?_
      refine lv_topi (fun z1 ez1 => ?_)
      refine kq_put [(3, .int z1), (1, .int 0), (110, .int 0), (123, .int 0)] hts iX13 tyX13 tyX13_ok nmX13 hx hb hown hK hP hD hS 0 rfl rfl hJ 3 (by decide) (by decide) (hts _ (bP 139 rfl)) rfl (ty := .int) (by decide +kernel) (v := .int z1) rfl rfl dX13_back_26 (fun f h => kJ_put h _ _ (by decide)) (fun H locs fs hJ hP hD hS => ?_)
      have hP : va_P (dC, dI) vwCl [(h0, .inr (13, fs))] H := hP
      have hD : va_D A [(h0, .inr (13, fs))] := hD
      refine lv_aload_n hx hb dX13_back_29 rfl (lv_at hl 0 rfl) ?_
      refine va_get (D := (dC, dI)) (ci := 13) (v := .int z1) (C := RX13) (T := TX13) (N := 180) hx hb hts iX13 hown hK hP 0 rfl rfl 3 (by decide) (hts _ (bP 139 rfl)) (fun _ h9 => h9) (kJ_at hJ 0 rfl) dX13_back_30 ?_
      exact W.iret (v := z1) hx hb hr (fun t ht hW => ⟨⟨z1, (), rfl, by first | exact bk1 h6 | exact bk2 h6 h14 ez1 | exact bk3 h14, trivial⟩, hS.F ht⟩) hS.2.2 dX13_back_33
    · refine lv_iconst (v := (-1)) hx hb dX13_back_17 (by decide) ?_
      exact W.iret (v := (-1)) hx hb hr (fun t ht hW => ⟨⟨(-1), (), rfl, by first | exact bk1 h6 | exact bk2 h6 h14 ez1 | exact bk3 h14, trivial⟩, hS.F ht⟩) hS.2.2 dX13_back_18
set_option maxHeartbeats 4000000 in
set_option maxRecDepth 100000 in
/-- begin -/
theorem c_M_begin (l : Launch) (dC : Nat → ClassId) (dI : Nat → Nat → Nat) (h0 sz : Nat) (fs : List Value) (a1 : Int32) : Met l yX13_begin (.code yX13_begin cX13_begin 3 none :: wP) ({ frames := 0, cells := 0, slots := 0, locals := 0 }) (va_Pc [.ref h0, .int a1] (fun U => U.heap.size = sz ∧ kJ 180 [(3, .int 0), (110, .int 0), (123, .int 0)] fs ∧ va_P (dC, dI) vwCl [(h0, .inr (13, fs))] U.heap ∧ va_K (dC, dI) vwCl [] U ∧ va_D (fun _ => True) [(h0, .inr (13, fs))])) (va_Qv (fun u : List Value => kJ 180 [(1, .int 1)] u) (fun (u : List Value) (t : State) => va_P (dC, dI) vwCl [(h0, .inr (13, u))] t.heap ∧ va_K (dC, dI) vwCl [] t ∧ va_D (va_A [(h0, .inr (13, fs))] sz) [(h0, .inr (13, u))]) (va_A [(h0, .inr (13, fs))] sz)) 0 0 (va_A [(h0, .inr (13, fs))] sz) := by
  refine Met.ofW (cc := cX13_begin) (maxL := 3) (ret := none) (by decide) rfl ?_
  intro p e s m args below meth c s₁ B hml hv
  obtain ⟨rfl, hsz, hJ, hP, hK, hD0⟩ := hv
  have hx := B.exec
  have hb := B.bytes
  have hr := B.returns
  have hts := atoms_spec (ws := .code yX13_begin cX13_begin 3 none :: wP) B.pre
  have hown : s.vm.findClass RX13 = some m.cls := findClass_of_methodNamed B.named
  subst hsz
  have hD := hD0.self (sz := s.heap.size)
  generalize hAe : va_A [(h0, .inr (13, fs))] s.heap.size = A at hD ⊢
  have hA : ∀ q : Nat, s.heap.size ≤ q → A q := fun q h => by rw [← hAe]; exact Or.inr h
  have hS : va_S A s.heap s.heap [] := va_S.rf
  have hl := lv_entry ([.ref h0, .int a1]) (n := 3) (Nat.le_of_ble_eq_true rfl)
  rw [lg_entry_eq]
  generalize (lg_sl ([.ref h0, .int a1]) ++ List.replicate (3 - (lg_sl ([.ref h0, .int a1])).length) Slot.unset).toArray = ls at hl ⊢
  obtain ⟨H, hHe⟩ : ∃ H, H = s.heap := ⟨_, rfl⟩
  rw [← hHe] at hP ⊢
  have hS : va_S A s.heap H [] := by rw [hHe]; exact hS
  have hl : lv_has ls 3 [(0, .ref h0), (1, .int a1)] := hl
  refine lv_aload_n hx hb dX13_begin_0 rfl (lv_at hl 0 rfl) ?_
  refine lv_aload_n hx hb dX13_begin_1 rfl (lv_at hl 0 rfl) ?_
  refine va_get (D := (dC, dI)) (ci := 13) (v := .int 0) (C := RX13) (T := TX13) (N := 180) hx hb hts iX13 hown hK hP 0 rfl rfl 110 (by decide) (hts _ (bP 141 rfl)) (fun _ h9 => h9) (kJ_at hJ 1 rfl) dX13_begin_2 ?_
  refine lv_if_eq (tgt := 12) hx hb dX13_begin_5 (by decide) (fun _ => ?_) (fun h => absurd h (by decide))
  refine lv_iconst (v := 1) hx hb dX13_begin_12 (by decide) ?_
  refine kq_put [(1, .int 1), (3, .int 0), (110, .int 0), (123, .int 0)] hts iX13 tyX13 tyX13_ok nmX13 hx hb hown hK hP hD hS 0 rfl rfl hJ 1 (by decide) (by decide) (hts _ (bP 135 rfl)) rfl (ty := .int) (by decide +kernel) (v := .int 1) rfl rfl dX13_begin_13 (fun f h => kJ_put h _ _ (by decide)) (fun H locs fs hJ hP hD hS => ?_)
  have hP : va_P (dC, dI) vwCl [(h0, .inr (13, fs))] H := hP
  have hD : va_D A [(h0, .inr (13, fs))] := hD
  refine lv_aload_n hx hb dX13_begin_16 rfl (lv_at hl 0 rfl) ?_
  refine va_get (D := (dC, dI)) (ci := 13) (v := .int 1) (C := RX13) (T := TX13) (N := 180) hx hb hts iX13 hown hK hP 0 rfl rfl 1 (by decide) (hts _ (bP 135 rfl)) (fun _ h9 => h9) (kJ_at hJ 0 rfl) dX13_begin_17 ?_
  refine lv_if_le (tgt := 24) hx hb dX13_begin_20 (by decide) (fun h => absurd h (by decide)) (fun _ => ?_)
  exact W.vret hx hb hr (fun t ht hW => ⟨⟨fs, rfl, kJ_sub hJ (fun x hx => by rw [List.mem_singleton.mp hx]; exact List.mem_cons_self), by rw [ht]; exact hP, va_K.moved hW.alike hK, hD⟩, hS.F ht⟩) hS.2.2 dX13_begin_23
set_option maxHeartbeats 4000000 in
set_option maxRecDepth 100000 in
/-- run -/
theorem c_M_run (l : Launch) (dC : Nat → ClassId) (dI : Nat → Nat → Nat) (h0 sz : Nat) (fs : List Value) (a1 : Int32) : Met l yX13_run (.code yX13_run cX13_run 5 (some .int) :: wP) ({ frames := 0, cells := 0, slots := 0, locals := 0 }) (va_Pc [.ref h0, .int a1] (fun U => U.heap.size = sz ∧ kJ 180 [(3, .int 0), (110, .int 0), (123, .int 0)] fs ∧ va_P (dC, dI) vwCl [(h0, .inr (13, fs))] U.heap ∧ va_K (dC, dI) vwCl [] U ∧ va_D (fun _ => True) [(h0, .inr (13, fs))])) (va_Qi (fun (_ : Int32) (u : List Value) => kJ 180 [(1, .int (rc a1))] u) (fun (u : List Value) (t : State) => va_P (dC, dI) vwCl [(h0, .inr (13, u))] t.heap ∧ va_K (dC, dI) vwCl [] t ∧ va_D (va_A [(h0, .inr (13, fs))] sz) [(h0, .inr (13, u))]) (va_A [(h0, .inr (13, fs))] sz)) 0 0 (va_A [(h0, .inr (13, fs))] sz) := by
  refine Met.ofW (cc := cX13_run) (maxL := 5) (ret := (some .int)) (by decide) rfl ?_
  intro p e s m args below meth c s₁ B hml hv
  obtain ⟨rfl, hsz, hJ, hP, hK, hD0⟩ := hv
  have hx := B.exec
  have hb := B.bytes
  have hr := B.returns
  have hts := atoms_spec (ws := .code yX13_run cX13_run 5 (some .int) :: wP) B.pre
  have hown : s.vm.findClass RX13 = some m.cls := findClass_of_methodNamed B.named
  subst hsz
  have hD := hD0.self (sz := s.heap.size)
  generalize hAe : va_A [(h0, .inr (13, fs))] s.heap.size = A at hD ⊢
  have hA : ∀ q : Nat, s.heap.size ≤ q → A q := fun q h => by rw [← hAe]; exact Or.inr h
  have hS : va_S A s.heap s.heap [] := va_S.rf
  have hl := lv_entry ([.ref h0, .int a1]) (n := 5) (Nat.le_of_ble_eq_true rfl)
  rw [lg_entry_eq]
  generalize (lg_sl ([.ref h0, .int a1]) ++ List.replicate (5 - (lg_sl ([.ref h0, .int a1])).length) Slot.unset).toArray = ls at hl ⊢
  obtain ⟨H, hHe⟩ : ∃ H, H = s.heap := ⟨_, rfl⟩
  rw [← hHe] at hP ⊢
  have hS : va_S A s.heap H [] := by rw [hHe]; exact hS
  have hl : lv_has ls 5 [(0, .ref h0), (1, .int a1)] := hl
  refine lv_aload_n hx hb dX13_run_0 rfl (lv_at hl 0 rfl) ?_
  refine lv_iload_n hx hb dX13_run_1 rfl (lv_at hl 1 rfl) ?_
  refine lv_if_lt (tgt := 12) hx hb dX13_run_2 (by decide) (fun h2 => ?_) (fun h2 => ?_)
  · refine lv_iconst (v := 1) hx hb dX13_run_12 (by decide) ?_
    refine lv_goto (tgt := 28) hx hb dX13_run_13 (by decide) ?_
    refine kq_put [(1, .int 1), (3, .int 0), (110, .int 0), (123, .int 0)] hts iX13 tyX13 tyX13_ok nmX13 hx hb hown hK hP hD hS 0 rfl rfl hJ 1 (by decide) (by decide) (hts _ (bP 135 rfl)) rfl (ty := .int) (by decide +kernel) (v := .int 1) rfl rfl dX13_run_28 (fun f h => kJ_put h _ _ (by decide)) (fun H locs fs hJ hP hD hS => ?_)
    have hP : va_P (dC, dI) vwCl [(h0, .inr (13, fs))] H := hP
    have hD : va_D A [(h0, .inr (13, fs))] := hD
    refine lv_aload_n hx hb dX13_run_31 rfl (lv_at hl 0 rfl) ?_
    refine va_get (D := (dC, dI)) (ci := 13) (v := .int 1) (C := RX13) (T := TX13) (N := 180) hx hb hts iX13 hown hK hP 0 rfl rfl 1 (by decide) (hts _ (bP 135 rfl)) (fun _ h9 => h9) (kJ_at hJ 0 rfl) dX13_run_32 ?_
    refine lv_if_le (tgt := 40) hx hb dX13_run_35 (by decide) (fun h => absurd h (by decide)) (fun _ => ?_)
    refine lv_iconst (v := 0) hx hb dX13_run_38 (by decide) ?_
    exact W.iret (v := 0) hx hb hr (fun t ht hW => ⟨⟨0, fs, rfl, by first | (rw [rc1 h2]; exact kJ_sub hJ (fun x hx => by rw [List.mem_singleton.mp hx]; exact List.mem_cons_self)) | (rw [rc2 h9]; exact kJ_sub hJ (fun x hx => by rw [List.mem_singleton.mp hx]; exact List.mem_cons_self)) | (rw [rc3 h2 h9]; exact kJ_sub hJ (fun x hx => by rw [List.mem_singleton.mp hx]; exact List.mem_cons_self)), by rw [ht]; exact hP, va_K.moved hW.alike hK, hD⟩, hS.F ht⟩) hS.2.2 dX13_run_39
  · refine lv_iload_n hx hb dX13_run_5 rfl (lv_at hl 1 rfl) ?_
    refine lv_sipush (v := 2000) hx hb dX13_run_6 (by decide) ?_
    refine lv_icmp_le (tgt := 16) hx hb dX13_run_9 (by decide) (fun h9 => ?_) (fun h9 => ?_)
    · refine lv_aload_n hx hb dX13_run_16 rfl (lv_at hl 0 rfl) ?_
      refine va_get (D := (dC, dI)) (ci := 13) (v := .int 0) (C := RX13) (T := TX13) (N := 180) hx hb hts iX13 hown hK hP 0 rfl rfl 123 (by decide) (hts _ (bP 136 rfl)) (fun _ h9 => h9) (kJ_at hJ 2 rfl) dX13_run_17 ?_
      refine lv_if_ne (tgt := 27) hx hb dX13_run_20 (by decide) (fun h => absurd h (by decide)) (fun _ => ?_)
      refine lv_iconst (v := 2) hx hb dX13_run_23 (by decide) ?_
      refine lv_goto (tgt := 28) hx hb dX13_run_24 (by decide) ?_
      refine kq_put [(1, .int 2), (3, .int 0), (110, .int 0), (123, .int 0)] hts iX13 tyX13 tyX13_ok nmX13 hx hb hown hK hP hD hS 0 rfl rfl hJ 1 (by decide) (by decide) (hts _ (bP 135 rfl)) rfl (ty := .int) (by decide +kernel) (v := .int 2) rfl rfl dX13_run_28 (fun f h => kJ_put h _ _ (by decide)) (fun H locs fs hJ hP hD hS => ?_)
      have hP : va_P (dC, dI) vwCl [(h0, .inr (13, fs))] H := hP
      have hD : va_D A [(h0, .inr (13, fs))] := hD
      refine lv_aload_n hx hb dX13_run_31 rfl (lv_at hl 0 rfl) ?_
      refine va_get (D := (dC, dI)) (ci := 13) (v := .int 2) (C := RX13) (T := TX13) (N := 180) hx hb hts iX13 hown hK hP 0 rfl rfl 1 (by decide) (hts _ (bP 135 rfl)) (fun _ h9 => h9) (kJ_at hJ 0 rfl) dX13_run_32 ?_
      refine lv_if_le (tgt := 40) hx hb dX13_run_35 (by decide) (fun h => absurd h (by decide)) (fun _ => ?_)
      refine lv_iconst (v := 0) hx hb dX13_run_38 (by decide) ?_
      exact W.iret (v := 0) hx hb hr (fun t ht hW => ⟨⟨0, fs, rfl, by first | (rw [rc1 h2]; exact kJ_sub hJ (fun x hx => by rw [List.mem_singleton.mp hx]; exact List.mem_cons_self)) | (rw [rc2 h9]; exact kJ_sub hJ (fun x hx => by rw [List.mem_singleton.mp hx]; exact List.mem_cons_self)) | (rw [rc3 h2 h9]; exact kJ_sub hJ (fun x hx => by rw [List.mem_singleton.mp hx]; exact List.mem_cons_self)), by rw [ht]; exact hP, va_K.moved hW.alike hK, hD⟩, hS.F ht⟩) hS.2.2 dX13_run_39
    · refine lv_iconst (v := 1) hx hb dX13_run_12 (by decide) ?_
      refine lv_goto (tgt := 28) hx hb dX13_run_13 (by decide) ?_
      refine kq_put [(1, .int 1), (3, .int 0), (110, .int 0), (123, .int 0)] hts iX13 tyX13 tyX13_ok nmX13 hx hb hown hK hP hD hS 0 rfl rfl hJ 1 (by decide) (by decide) (hts _ (bP 135 rfl)) rfl (ty := .int) (by decide +kernel) (v := .int 1) rfl rfl dX13_run_28 (fun f h => kJ_put h _ _ (by decide)) (fun H locs fs hJ hP hD hS => ?_)
      have hP : va_P (dC, dI) vwCl [(h0, .inr (13, fs))] H := hP
      have hD : va_D A [(h0, .inr (13, fs))] := hD
      refine lv_aload_n hx hb dX13_run_31 rfl (lv_at hl 0 rfl) ?_
      refine va_get (D := (dC, dI)) (ci := 13) (v := .int 1) (C := RX13) (T := TX13) (N := 180) hx hb hts iX13 hown hK hP 0 rfl rfl 1 (by decide) (hts _ (bP 135 rfl)) (fun _ h9 => h9) (kJ_at hJ 0 rfl) dX13_run_32 ?_
      refine lv_if_le (tgt := 40) hx hb dX13_run_35 (by decide) (fun h => absurd h (by decide)) (fun _ => ?_)
      refine lv_iconst (v := 0) hx hb dX13_run_38 (by decide) ?_
      exact W.iret (v := 0) hx hb hr (fun t ht hW => ⟨⟨0, fs, rfl, by first | (rw [rc1 h2]; exact kJ_sub hJ (fun x hx => by rw [List.mem_singleton.mp hx]; exact List.mem_cons_self)) | (rw [rc2 h9]; exact kJ_sub hJ (fun x hx => by rw [List.mem_singleton.mp hx]; exact List.mem_cons_self)) | (rw [rc3 h2 h9]; exact kJ_sub hJ (fun x hx => by rw [List.mem_singleton.mp hx]; exact List.mem_cons_self)), by rw [ht]; exact hP, va_K.moved hW.alike hK, hD⟩, hS.F ht⟩) hS.2.2 dX13_run_39
set_option maxHeartbeats 4000000 in
set_option maxRecDepth 100000 in
/-- thrown -/
theorem c_M_thrown (l : Launch) (dC : Nat → ClassId) (dI : Nat → Nat → Nat) (h0 sz : Nat) (fs : List Value) (k : Int32) : Met l yX13_thrown (.code yX13_thrown cX13_thrown 1 (some .int) :: wP) ({ frames := 0, cells := 0, slots := 0, locals := 0 }) (va_Pc [.ref h0] (fun U => U.heap.size = sz ∧ kJ 180 [(1, .int k)] fs ∧ va_P (dC, dI) vwCl [(h0, .inr (13, fs))] U.heap ∧ va_K (dC, dI) vwCl [] U ∧ va_D (fun _ => True) [(h0, .inr (13, fs))])) (va_Qi (fun r (_ : Unit) => r = k) (fun (_ : Unit) (_ : State) => True) (va_A [(h0, .inr (13, fs))] sz)) 0 0 (va_A [(h0, .inr (13, fs))] sz) := by
  refine Met.ofW (cc := cX13_thrown) (maxL := 1) (ret := (some .int)) (by decide) rfl ?_
  intro p e s m args below meth c s₁ B hml hv
  obtain ⟨rfl, hsz, hJ, hP, hK, hD0⟩ := hv
  have hx := B.exec
  have hb := B.bytes
  have hr := B.returns
  have hts := atoms_spec (ws := .code yX13_thrown cX13_thrown 1 (some .int) :: wP) B.pre
  have hown : s.vm.findClass RX13 = some m.cls := findClass_of_methodNamed B.named
  subst hsz
  have hD := hD0.self (sz := s.heap.size)
  generalize hAe : va_A [(h0, .inr (13, fs))] s.heap.size = A at hD ⊢
  have hA : ∀ q : Nat, s.heap.size ≤ q → A q := fun q h => by rw [← hAe]; exact Or.inr h
  have hS : va_S A s.heap s.heap [] := va_S.rf
  have hl := lv_entry ([.ref h0]) (n := 1) (Nat.le_of_ble_eq_true rfl)
  rw [lg_entry_eq]
  generalize (lg_sl ([.ref h0]) ++ List.replicate (1 - (lg_sl ([.ref h0])).length) Slot.unset).toArray = ls at hl ⊢
  obtain ⟨H, hHe⟩ : ∃ H, H = s.heap := ⟨_, rfl⟩
  rw [← hHe] at hP ⊢
  have hS : va_S A s.heap H [] := by rw [hHe]; exact hS
  have hl : lv_has ls 1 [(0, .ref h0)] := hl
  refine lv_aload_n hx hb dX13_thrown_0 rfl (lv_at hl 0 rfl) ?_
  refine va_get (D := (dC, dI)) (ci := 13) (v := .int k) (C := RX13) (T := TX13) (N := 180) hx hb hts iX13 hown hK hP 0 rfl rfl 1 (by decide) (hts _ (bP 135 rfl)) (fun _ h9 => h9) (kJ_at hJ 0 rfl) dX13_thrown_1 ?_
  exact W.iret (v := k) hx hb hr (fun t ht hW => ⟨⟨k, (), rfl, rfl, trivial⟩, hS.F ht⟩) hS.2.2 dX13_thrown_4
set_option maxHeartbeats 4000000 in
set_option maxRecDepth 100000 in
/-- state -/
theorem c_M_state (l : Launch) (dC : Nat → ClassId) (dI : Nat → Nat → Nat) (h0 sz : Nat) (fs : List Value) : Met l yX13_state (.code yX13_state cX13_state 1 (some .int) :: wP) ({ frames := 0, cells := 0, slots := 0, locals := 0 }) (va_Pc [.ref h0] (fun U => U.heap.size = sz ∧ kJ 180 [(3, .int 0), (110, .int 0), (123, .int 0)] fs ∧ va_P (dC, dI) vwCl [(h0, .inr (13, fs))] U.heap ∧ va_K (dC, dI) vwCl [] U ∧ va_D (fun _ => True) [(h0, .inr (13, fs))])) (va_Qi (fun r (_ : Unit) => r = 0) (fun (_ : Unit) (_ : State) => True) (va_A [(h0, .inr (13, fs))] sz)) 0 0 (va_A [(h0, .inr (13, fs))] sz) := by
  refine Met.ofW (cc := cX13_state) (maxL := 1) (ret := (some .int)) (by decide) rfl ?_
  intro p e s m args below meth c s₁ B hml hv
  obtain ⟨rfl, hsz, hJ, hP, hK, hD0⟩ := hv
  have hx := B.exec
  have hb := B.bytes
  have hr := B.returns
  have hts := atoms_spec (ws := .code yX13_state cX13_state 1 (some .int) :: wP) B.pre
  have hown : s.vm.findClass RX13 = some m.cls := findClass_of_methodNamed B.named
  subst hsz
  have hD := hD0.self (sz := s.heap.size)
  generalize hAe : va_A [(h0, .inr (13, fs))] s.heap.size = A at hD ⊢
  have hA : ∀ q : Nat, s.heap.size ≤ q → A q := fun q h => by rw [← hAe]; exact Or.inr h
  have hS : va_S A s.heap s.heap [] := va_S.rf
  have hl := lv_entry ([.ref h0]) (n := 1) (Nat.le_of_ble_eq_true rfl)
  rw [lg_entry_eq]
  generalize (lg_sl ([.ref h0]) ++ List.replicate (1 - (lg_sl ([.ref h0])).length) Slot.unset).toArray = ls at hl ⊢
  obtain ⟨H, hHe⟩ : ∃ H, H = s.heap := ⟨_, rfl⟩
  rw [← hHe] at hP ⊢
  have hS : va_S A s.heap H [] := by rw [hHe]; exact hS
  have hl : lv_has ls 1 [(0, .ref h0)] := hl
  refine lv_aload_n hx hb dX13_state_0 rfl (lv_at hl 0 rfl) ?_
  refine va_get (D := (dC, dI)) (ci := 13) (v := .int 0) (C := RX13) (T := TX13) (N := 180) hx hb hts iX13 hown hK hP 0 rfl rfl 123 (by decide) (hts _ (bP 136 rfl)) (fun _ h9 => h9) (kJ_at hJ 2 rfl) dX13_state_1 ?_
  refine lv_if_ne (tgt := 9) hx hb dX13_state_4 (by decide) (fun h => absurd h (by decide)) (fun _ => ?_)
  refine lv_iconst (v := 0) hx hb dX13_state_7 (by decide) ?_
  exact W.iret (v := 0) hx hb hr (fun t ht hW => ⟨⟨0, (), rfl, rfl, trivial⟩, hS.F ht⟩) hS.2.2 dX13_state_8
set_option maxHeartbeats 4000000 in
set_option maxRecDepth 100000 in
/-- count -/
theorem c_M_count (l : Launch) (dC : Nat → ClassId) (dI : Nat → Nat → Nat) (h0 sz : Nat) (fs : List Value) (a1 : Int32) : Met l yX13_count (.code yX13_count cX13_count 4 (some .int) :: wP) ({ frames := 1, cells := 0, slots := 0, locals := 20 }) (va_Pc [.ref h0, .int a1] (fun U => U.heap.size = sz ∧ kJ 180 [(3, .int 0), (110, .int 0), (123, .int 0)] fs ∧ va_P (dC, dI) vwCl [(h0, .inr (13, fs))] U.heap ∧ va_K (dC, dI) vwCl [] U ∧ va_D (fun _ => True) [(h0, .inr (13, fs))])) (va_Qi (fun r (_ : Unit) => r = cnt a1) (fun (_ : Unit) (_ : State) => True) (va_A [(h0, .inr (13, fs))] sz)) 0 0 (va_A [(h0, .inr (13, fs))] sz) := by
  refine Met.ofW (cc := cX13_count) (maxL := 4) (ret := (some .int)) (by decide) rfl ?_
  intro p e s m args below meth c s₁ B hml hv
  obtain ⟨rfl, hsz, hJ, hP, hK, hD0⟩ := hv
  have hx := B.exec
  have hb := B.bytes
  have hr := B.returns
  have hts := atoms_spec (ws := .code yX13_count cX13_count 4 (some .int) :: wP) B.pre
  have hown : s.vm.findClass RX13 = some m.cls := findClass_of_methodNamed B.named
  subst hsz
  have hD := hD0.self (sz := s.heap.size)
  generalize hAe : va_A [(h0, .inr (13, fs))] s.heap.size = A at hD ⊢
  have hA : ∀ q : Nat, s.heap.size ≤ q → A q := fun q h => by rw [← hAe]; exact Or.inr h
  have hS : va_S A s.heap s.heap [] := va_S.rf
  have hl := lv_entry ([.ref h0, .int a1]) (n := 4) (Nat.le_of_ble_eq_true rfl)
  rw [lg_entry_eq]
  generalize (lg_sl ([.ref h0, .int a1]) ++ List.replicate (4 - (lg_sl ([.ref h0, .int a1])).length) Slot.unset).toArray = ls at hl ⊢
  obtain ⟨H, hHe⟩ : ∃ H, H = s.heap := ⟨_, rfl⟩
  rw [← hHe] at hP ⊢
  have hS : va_S A s.heap H [] := by rw [hHe]; exact hS
  have hl : lv_has ls 4 [(0, .ref h0), (1, .int a1)] := hl
  refine lv_aload_n hx hb dX13_count_0 rfl (lv_at hl 0 rfl) ?_
  refine lv_iconst (v := 0) hx hb dX13_count_1 (by decide) ?_
  refine kq_put [(1, .int 0), (3, .int 0), (110, .int 0), (123, .int 0)] hts iX13 tyX13 tyX13_ok nmX13 hx hb hown hK hP hD hS 0 rfl rfl hJ 1 (by decide) (by decide) (hts _ (bP 135 rfl)) rfl (ty := .int) (by decide +kernel) (v := .int 0) rfl rfl dX13_count_2 (fun f h => kJ_put h _ _ (by decide)) (fun H locs fs hJ hP hD hS => ?_)
  have hP : va_P (dC, dI) vwCl [(h0, .inr (13, fs))] H := hP
  have hD : va_D A [(h0, .inr (13, fs))] := hD
  refine lv_iload_n hx hb dX13_count_5 rfl (lv_at hl 1 rfl) ?_
  refine lv_iconst (v := 5) hx hb dX13_count_6 (by decide) ?_
  refine lv_icmp_lt (tgt := 30) hx hb dX13_count_7 (by decide) (fun h7 => ?_) (fun h7 => ?_)
  · refine lv_iload_n hx hb dX13_count_30 rfl (lv_at hl 1 rfl) ?_
    by_cases h9 : a1 < 0
    · refine lv_tableOut (tgt := 242) hx hb dX13_count_31 (Or.inl (k_lo h9)) (by decide) ?_
      refine lv_iconst (v := (-1)) hx hb dX13_count_242 (by decide) ?_
      exact W.iret (v := (-1)) hx hb hr (fun t ht hW => ⟨⟨(-1), (), rfl, by first | rfl | exact cnt1 h9 | exact cnt2 h13 | exact cnt3 h7 h13 | exact hw, trivial⟩, hS.F ht⟩) hS.2.2 dX13_count_243
    · rcases i5 h9 h7 with h | h | h | h | h <;> subst h
      · refine lv_tableIn (tgt := 100) hx hb dX13_count_31 (by decide) (by decide) rfl (by decide) ?_
        refine lv_aload_n hx hb dX13_count_100 rfl (lv_at hl 0 rfl) ?_
        refine va_get (D := (dC, dI)) (ci := 13) (v := .int 0) (C := RX13) (T := TX13) (N := 180) hx hb hts iX13 hown hK hP 0 rfl rfl 110 (by decide) (hts _ (bP 141 rfl)) (fun _ h9 => h9) (kJ_at hJ 2 rfl) dX13_count_101 ?_
        refine lv_if_eq (tgt := 114) hx hb dX13_count_104 (by decide) (fun _ => ?_) (fun h => absurd h (by decide))
        refine lv_iconst (v := 0) hx hb dX13_count_114 (by decide) ?_
        exact W.iret (v := 0) hx hb hr (fun t ht hW => ⟨⟨0, (), rfl, by first | rfl | exact cnt1 h9 | exact cnt2 h13 | exact cnt3 h7 h13 | exact hw, trivial⟩, hS.F ht⟩) hS.2.2 dX13_count_115
      · refine lv_tableIn (tgt := 116) hx hb dX13_count_31 (by decide) (by decide) rfl (by decide) ?_
        refine lv_aload_n hx hb dX13_count_116 rfl (lv_at hl 0 rfl) ?_
        refine va_get (D := (dC, dI)) (ci := 13) (v := .int 0) (C := RX13) (T := TX13) (N := 180) hx hb hts iX13 hown hK hP 0 rfl rfl 110 (by decide) (hts _ (bP 141 rfl)) (fun _ h9 => h9) (kJ_at hJ 2 rfl) dX13_count_117 ?_
        refine lv_if_eq (tgt := 130) hx hb dX13_count_120 (by decide) (fun _ => ?_) (fun h => absurd h (by decide))
        refine lv_iconst (v := 0) hx hb dX13_count_130 (by decide) ?_
        exact W.iret (v := 0) hx hb hr (fun t ht hW => ⟨⟨0, (), rfl, by first | rfl | exact cnt1 h9 | exact cnt2 h13 | exact cnt3 h7 h13 | exact hw, trivial⟩, hS.F ht⟩) hS.2.2 dX13_count_131
      · refine lv_tableIn (tgt := 132) hx hb dX13_count_31 (by decide) (by decide) rfl (by decide) ?_
        refine lv_aload_n hx hb dX13_count_132 rfl (lv_at hl 0 rfl) ?_
        refine va_get (D := (dC, dI)) (ci := 13) (v := .int 0) (C := RX13) (T := TX13) (N := 180) hx hb hts iX13 hown hK hP 0 rfl rfl 110 (by decide) (hts _ (bP 141 rfl)) (fun _ h9 => h9) (kJ_at hJ 2 rfl) dX13_count_133 ?_
        refine lv_if_eq (tgt := 146) hx hb dX13_count_136 (by decide) (fun _ => ?_) (fun h => absurd h (by decide))
        refine lv_iconst (v := 0) hx hb dX13_count_146 (by decide) ?_
        exact W.iret (v := 0) hx hb hr (fun t ht hW => ⟨⟨0, (), rfl, by first | rfl | exact cnt1 h9 | exact cnt2 h13 | exact cnt3 h7 h13 | exact hw, trivial⟩, hS.F ht⟩) hS.2.2 dX13_count_147
      · refine lv_tableIn (tgt := 148) hx hb dX13_count_31 (by decide) (by decide) rfl (by decide) ?_
        refine lv_aload_n hx hb dX13_count_148 rfl (lv_at hl 0 rfl) ?_
        refine va_get (D := (dC, dI)) (ci := 13) (v := .int 0) (C := RX13) (T := TX13) (N := 180) hx hb hts iX13 hown hK hP 0 rfl rfl 3 (by decide) (hts _ (bP 139 rfl)) (fun _ h9 => h9) (kJ_at hJ 1 rfl) dX13_count_149 ?_
        exact W.iret (v := 0) hx hb hr (fun t ht hW => ⟨⟨0, (), rfl, by first | rfl | exact cnt1 h9 | exact cnt2 h13 | exact cnt3 h7 h13 | exact hw, trivial⟩, hS.F ht⟩) hS.2.2 dX13_count_152
      · refine lv_tableIn (tgt := 153) hx hb dX13_count_31 (by decide) (by decide) rfl (by decide) ?_
        refine lv_aload_n hx hb dX13_count_153 rfl (lv_at hl 0 rfl) ?_
        have hPc := hP.sub (ws' := [(h0, .inr (13, fs))]) [0] rfl
        have hDc := hD.sub (ws' := [(h0, .inr (13, fs))]) [0] (by decide) rfl
        have hKc := hK.sub (tys' := []) [] rfl
        have hFc := va_free (wc := [(h0, .inr (13, fs))]) hD hS hA [0] rfl
        refine va_calli (va_runV (As := []) (rest := []) ⟨hx, hb, hml, hown, hts⟩ (c_M_state l dC dI h0 H.size fs) (cwV 0 hts (gV (y := yX13_state) _ 146 147 148 149 144 rfl rfl rfl rfl rfl) rfl rfl rfl (by decide +kernel) ⟨Nat.le_of_ble_eq_true rfl, Nat.le_of_ble_eq_true rfl⟩) ⟨fun a U g mk q => by obtain ⟨q0, q1, qJ, qP, qK, qD⟩ := q; exact ⟨q0, q1, qJ, qP, va_K.moved (u := U) (U := U.calling g mk a) (Vm.Alike.refl U.vm) qK, qD⟩, va_recv hKc hPc (ci := 13) (q0 := 0) rfl rfl, fun U hU hW => ⟨rfl, by rw [hU], kJ_sub hJ (by simp), by rw [hU]; exact hPc, va_K.moved hW.alike hKc, hDc.weaken (fun _ _ _ _ => trivial)⟩⟩ rfl rfl hl.1 rfl (lv_room (Nat.le_of_ble_eq_true rfl)) dX13_count_154 ⟨by simp, by simp⟩) hS (fun q _ h => hFc q h) hFc (fun r u t H locs ht hvm hw hB hz1 hk1 hS => ?_)
        exact W.iret (v := r) hx hb hr (fun t ht hW => ⟨⟨r, (), rfl, by first | rfl | exact cnt1 h9 | exact cnt2 h13 | exact cnt3 h7 h13 | exact hw, trivial⟩, hS.F ht⟩) hS.2.2 dX13_count_157
  · refine lv_iload_n hx hb dX13_count_10 rfl (lv_at hl 1 rfl) ?_
    refine lv_bipush (v := 13) hx hb dX13_count_11 (by decide) ?_
    refine lv_icmp_gt (tgt := 30) hx hb dX13_count_13 (by decide) (fun h13 => ?_) (fun h13 => ?_)
    · refine lv_iload_n hx hb dX13_count_30 rfl (lv_at hl 1 rfl) ?_
      refine lv_tableOut (tgt := 242) hx hb dX13_count_31 (Or.inr (k_hi h13)) (by decide) ?_
      refine lv_iconst (v := (-1)) hx hb dX13_count_242 (by decide) ?_
      exact W.iret (v := (-1)) hx hb hr (fun t ht hW => ⟨⟨(-1), (), rfl, by first | rfl | exact cnt1 h9 | exact cnt2 h13 | exact cnt3 h7 h13 | exact hw, trivial⟩, hS.F ht⟩) hS.2.2 dX13_count_243
    · refine lv_iload_n hx hb dX13_count_16 rfl (lv_at hl 1 rfl) ?_
      refine lv_iconst (v := 4) hx hb dX13_count_17 (by decide) ?_
      refine lv_icmp_eq (tgt := 30) hx hb dX13_count_18 (by decide) (fun h18 => ?_) (fun h18 => ?_)
      · refine lv_iload_n hx hb dX13_count_30 rfl (lv_at hl 1 rfl) ?_
        exact absurd (h18 ▸ (by decide : (4 : Int32) < 5)) h7
      · refine lv_aload_n hx hb dX13_count_21 rfl (lv_at hl 0 rfl) ?_
        refine va_get (D := (dC, dI)) (ci := 13) (v := .int 0) (C := RX13) (T := TX13) (N := 180) hx hb hts iX13 hown hK hP 0 rfl rfl 123 (by decide) (hts _ (bP 136 rfl)) (fun _ h9 => h9) (kJ_at hJ 3 rfl) dX13_count_22 ?_
        refine lv_if_ne (tgt := 30) hx hb dX13_count_25 (by decide) (fun h => absurd h (by decide)) (fun _ => ?_)
        refine lv_iconst (v := 0) hx hb dX13_count_28 (by decide) ?_
        exact W.iret (v := 0) hx hb hr (fun t ht hW => ⟨⟨0, (), rfl, by first | rfl | exact cnt1 h9 | exact cnt2 h13 | exact cnt3 h7 h13 | exact hw, trivial⟩, hS.F ht⟩) hS.2.2 dX13_count_29

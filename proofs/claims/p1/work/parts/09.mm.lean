/-! The reference on a fresh object: an empty tape, no program, no run -/
theorem dX13_key_0 : decode cX13_key 0 = .ok (.aload_n 0, 1) := by decide +kernel
theorem dX13_key_1 : decode cX13_key 1 = .ok (.iconst 0, 1) := by decide +kernel
theorem dX13_key_2 : decode cX13_key 2 = .ok (.putfield 451, 3) := by decide +kernel
theorem dX13_key_5 : decode cX13_key 5 = .ok (.aload_n 0, 1) := by decide +kernel
theorem dX13_key_6 : decode cX13_key 6 = .ok (.getfield 1122, 3) := by decide +kernel
theorem dX13_key_9 : decode cX13_key 9 = .ok (.ifCond .eq 13, 3) := by decide +kernel
theorem dX13_key_22 : decode cX13_key 22 = .ok (.iconst 0, 1) := by decide +kernel
theorem dX13_key_23 : decode cX13_key 23 = .ok (.ireturn, 1) := by decide +kernel
theorem dX13_output_0 : decode cX13_output 0 = .ok (.aload_n 0, 1) := by decide +kernel
theorem dX13_output_1 : decode cX13_output 1 = .ok (.iconst 0, 1) := by decide +kernel
theorem dX13_output_2 : decode cX13_output 2 = .ok (.putfield 451, 3) := by decide +kernel
theorem dX13_output_5 : decode cX13_output 5 = .ok (.aload_n 0, 1) := by decide +kernel
theorem dX13_output_6 : decode cX13_output 6 = .ok (.getfield 1122, 3) := by decide +kernel
theorem dX13_output_9 : decode cX13_output 9 = .ok (.ifCond .eq 15, 3) := by decide +kernel
theorem dX13_output_24 : decode cX13_output 24 = .ok (.iconst (-1), 1) := by decide +kernel
theorem dX13_output_25 : decode cX13_output 25 = .ok (.goto 9, 3) := by decide +kernel
theorem dX13_output_34 : decode cX13_output 34 = .ok (.ireturn, 1) := by decide +kernel
theorem dX13_cell_0 : decode cX13_cell 0 = .ok (.aload_n 0, 1) := by decide +kernel
theorem dX13_cell_1 : decode cX13_cell 1 = .ok (.iconst 0, 1) := by decide +kernel
theorem dX13_cell_2 : decode cX13_cell 2 = .ok (.putfield 451, 3) := by decide +kernel
theorem dX13_cell_5 : decode cX13_cell 5 = .ok (.aload_n 0, 1) := by decide +kernel
theorem dX13_cell_6 : decode cX13_cell 6 = .ok (.getfield 1122, 3) := by decide +kernel
theorem dX13_cell_9 : decode cX13_cell 9 = .ok (.ifCond .eq 14, 3) := by decide +kernel
theorem dX13_cell_23 : decode cX13_cell 23 = .ok (.iconst 0, 1) := by decide +kernel
theorem dX13_cell_24 : decode cX13_cell 24 = .ok (.ireturn, 1) := by decide +kernel
theorem dX13_meeting_0 : decode cX13_meeting 0 = .ok (.aload_n 0, 1) := by decide +kernel
theorem dX13_meeting_1 : decode cX13_meeting 1 = .ok (.iconst 0, 1) := by decide +kernel
theorem dX13_meeting_2 : decode cX13_meeting 2 = .ok (.putfield 451, 3) := by decide +kernel
theorem dX13_meeting_5 : decode cX13_meeting 5 = .ok (.aload_n 0, 1) := by decide +kernel
theorem dX13_meeting_6 : decode cX13_meeting 6 = .ok (.getfield 1122, 3) := by decide +kernel
theorem dX13_meeting_9 : decode cX13_meeting 9 = .ok (.ifCond .eq 31, 3) := by decide +kernel
theorem dX13_meeting_40 : decode cX13_meeting 40 = .ok (.iconst (-1), 1) := by decide +kernel
theorem dX13_meeting_41 : decode cX13_meeting 41 = .ok (.ireturn, 1) := by decide +kernel
theorem dX13_clashes_0 : decode cX13_clashes 0 = .ok (.aload_n 0, 1) := by decide +kernel
theorem dX13_clashes_1 : decode cX13_clashes 1 = .ok (.iconst 0, 1) := by decide +kernel
theorem dX13_clashes_2 : decode cX13_clashes 2 = .ok (.putfield 451, 3) := by decide +kernel
theorem dX13_clashes_5 : decode cX13_clashes 5 = .ok (.aload_n 0, 1) := by decide +kernel
theorem dX13_clashes_6 : decode cX13_clashes 6 = .ok (.getfield 1122, 3) := by decide +kernel
theorem dX13_clashes_9 : decode cX13_clashes 9 = .ok (.ifCond .eq 10, 3) := by decide +kernel
theorem dX13_clashes_19 : decode cX13_clashes 19 = .ok (.iconst 0, 1) := by decide +kernel
theorem dX13_clashes_20 : decode cX13_clashes 20 = .ok (.ireturn, 1) := by decide +kernel
set_option maxHeartbeats 4000000 in
set_option maxRecDepth 100000 in
/-- key -/
theorem c_M_key (l : Launch) (dC : Nat → ClassId) (dI : Nat → Nat → Nat) (h0 sz : Nat) (fs : List Value) (a1 : Int32) : Met l yX13_key (.code yX13_key cX13_key 4 (some .boolean) :: wP) ({ frames := 0, cells := 0, slots := 0, locals := 0 }) (va_Pc [.ref h0, .int a1] (fun U => U.heap.size = sz ∧ kJ 180 [(3, .int 0), (110, .int 0), (123, .int 0)] fs ∧ va_P (dC, dI) vwCl [(h0, .inr (13, fs))] U.heap ∧ va_K (dC, dI) vwCl [] U ∧ va_D (fun _ => True) [(h0, .inr (13, fs))])) (va_Qi (fun r (_ : Unit) => r = 0) (fun (_ : Unit) (_ : State) => True) (va_A [(h0, .inr (13, fs))] sz)) 0 0 (va_A [(h0, .inr (13, fs))] sz) := by
  refine Met.ofW (cc := cX13_key) (maxL := 4) (ret := (some .boolean)) (by decide) rfl ?_
  intro p e s m args below meth c s₁ B hml hv
  obtain ⟨rfl, hsz, hJ, hP, hK, hD0⟩ := hv
  have hx := B.exec
  have hb := B.bytes
  have hr := B.returns
  have hts := atoms_spec (ws := .code yX13_key cX13_key 4 (some .boolean) :: wP) B.pre
  have hown : s.vm.findClass RX13 = some m.cls := findClass_of_methodNamed B.named
  subst hsz
  have hD := hD0.self (sz := s.heap.size)
  generalize hAe : va_A [(h0, .inr (13, fs))] s.heap.size = A at hD ⊢
  have hA : ∀ q : Nat, s.heap.size ≤ q → A q := fun q h => by rw [← hAe]; exact Or.inr h
  have hS : va_S A s.heap s.heap [] := va_S.rf
  have hl := lv_entry ([.ref h0, .int a1]) (n := 4) (Nat.le_of_ble_eq_true rfl)
  rw [lg_entry_eq]
  generalize (lg_sl ([.ref h0, .int a1]) ++ List.replicate (4 - (lg_sl ([.ref h0, .int a1])).length) Slot.unset).toArray = ls at hl ⊢
  obtain ⟨H, hHe⟩ : ∃ H, H = s.heap := ⟨_, rfl⟩
  rw [← hHe] at hP ⊢
  have hS : va_S A s.heap H [] := by rw [hHe]; exact hS
  have hl : lv_has ls 4 [(0, .ref h0), (1, .int a1)] := hl
  refine lv_aload_n hx hb dX13_key_0 rfl (lv_at hl 0 rfl) ?_
  refine lv_iconst (v := 0) hx hb dX13_key_1 (by decide) ?_
  refine kq_put [(1, .int 0), (3, .int 0), (110, .int 0), (123, .int 0)] hts iX13 tyX13 tyX13_ok nmX13 hx hb hown hK hP hD hS 0 rfl rfl hJ 1 (by decide) (by decide) (hts _ (bP 135 rfl)) rfl (ty := .int) (by decide +kernel) (v := .int 0) rfl rfl dX13_key_2 (fun f h => kJ_put h _ _ (by decide)) (fun H locs fs hJ hP hD hS => ?_)
  have hP : va_P (dC, dI) vwCl [(h0, .inr (13, fs))] H := hP
  have hD : va_D A [(h0, .inr (13, fs))] := hD
  refine lv_aload_n hx hb dX13_key_5 rfl (lv_at hl 0 rfl) ?_
  refine va_get (D := (dC, dI)) (ci := 13) (v := .int 0) (C := RX13) (T := TX13) (N := 180) hx hb hts iX13 hown hK hP 0 rfl rfl 123 (by decide) (hts _ (bP 136 rfl)) (fun _ h9 => h9) (kJ_at hJ 3 rfl) dX13_key_6 ?_
  refine lv_if_eq (tgt := 22) hx hb dX13_key_9 (by decide) (fun _ => ?_) (fun h => absurd h (by decide))
  refine lv_iconst (v := 0) hx hb dX13_key_22 (by decide) ?_
  exact W.zret (v := 0) hx hb hr (by decide) (fun t ht hW => ⟨⟨0, (), rfl, rfl, trivial⟩, hS.F ht⟩) hS.2.2 dX13_key_23
set_option maxHeartbeats 4000000 in
set_option maxRecDepth 100000 in
/-- output -/
theorem c_M_output (l : Launch) (dC : Nat → ClassId) (dI : Nat → Nat → Nat) (h0 sz : Nat) (fs : List Value) (a1 : Int32) : Met l yX13_output (.code yX13_output cX13_output 2 (some .int) :: wP) ({ frames := 0, cells := 0, slots := 0, locals := 0 }) (va_Pc [.ref h0, .int a1] (fun U => U.heap.size = sz ∧ kJ 180 [(3, .int 0), (110, .int 0), (123, .int 0)] fs ∧ va_P (dC, dI) vwCl [(h0, .inr (13, fs))] U.heap ∧ va_K (dC, dI) vwCl [] U ∧ va_D (fun _ => True) [(h0, .inr (13, fs))])) (va_Qi (fun r (_ : Unit) => r = -1) (fun (_ : Unit) (_ : State) => True) (va_A [(h0, .inr (13, fs))] sz)) 0 0 (va_A [(h0, .inr (13, fs))] sz) := by
  refine Met.ofW (cc := cX13_output) (maxL := 2) (ret := (some .int)) (by decide) rfl ?_
  intro p e s m args below meth c s₁ B hml hv
  obtain ⟨rfl, hsz, hJ, hP, hK, hD0⟩ := hv
  have hx := B.exec
  have hb := B.bytes
  have hr := B.returns
  have hts := atoms_spec (ws := .code yX13_output cX13_output 2 (some .int) :: wP) B.pre
  have hown : s.vm.findClass RX13 = some m.cls := findClass_of_methodNamed B.named
  subst hsz
  have hD := hD0.self (sz := s.heap.size)
  generalize hAe : va_A [(h0, .inr (13, fs))] s.heap.size = A at hD ⊢
  have hA : ∀ q : Nat, s.heap.size ≤ q → A q := fun q h => by rw [← hAe]; exact Or.inr h
  have hS : va_S A s.heap s.heap [] := va_S.rf
  have hl := lv_entry ([.ref h0, .int a1]) (n := 2) (Nat.le_of_ble_eq_true rfl)
  rw [lg_entry_eq]
  generalize (lg_sl ([.ref h0, .int a1]) ++ List.replicate (2 - (lg_sl ([.ref h0, .int a1])).length) Slot.unset).toArray = ls at hl ⊢
  obtain ⟨H, hHe⟩ : ∃ H, H = s.heap := ⟨_, rfl⟩
  rw [← hHe] at hP ⊢
  have hS : va_S A s.heap H [] := by rw [hHe]; exact hS
  have hl : lv_has ls 2 [(0, .ref h0), (1, .int a1)] := hl
  refine lv_aload_n hx hb dX13_output_0 rfl (lv_at hl 0 rfl) ?_
  refine lv_iconst (v := 0) hx hb dX13_output_1 (by decide) ?_
  refine kq_put [(1, .int 0), (3, .int 0), (110, .int 0), (123, .int 0)] hts iX13 tyX13 tyX13_ok nmX13 hx hb hown hK hP hD hS 0 rfl rfl hJ 1 (by decide) (by decide) (hts _ (bP 135 rfl)) rfl (ty := .int) (by decide +kernel) (v := .int 0) rfl rfl dX13_output_2 (fun f h => kJ_put h _ _ (by decide)) (fun H locs fs hJ hP hD hS => ?_)
  have hP : va_P (dC, dI) vwCl [(h0, .inr (13, fs))] H := hP
  have hD : va_D A [(h0, .inr (13, fs))] := hD
  refine lv_aload_n hx hb dX13_output_5 rfl (lv_at hl 0 rfl) ?_
  refine va_get (D := (dC, dI)) (ci := 13) (v := .int 0) (C := RX13) (T := TX13) (N := 180) hx hb hts iX13 hown hK hP 0 rfl rfl 123 (by decide) (hts _ (bP 136 rfl)) (fun _ h9 => h9) (kJ_at hJ 3 rfl) dX13_output_6 ?_
  refine lv_if_eq (tgt := 24) hx hb dX13_output_9 (by decide) (fun _ => ?_) (fun h => absurd h (by decide))
  refine lv_iconst (v := (-1)) hx hb dX13_output_24 (by decide) ?_
  refine lv_goto (tgt := 34) hx hb dX13_output_25 (by decide) ?_
  exact W.iret (v := (-1)) hx hb hr (fun t ht hW => ⟨⟨(-1), (), rfl, rfl, trivial⟩, hS.F ht⟩) hS.2.2 dX13_output_34
set_option maxHeartbeats 4000000 in
set_option maxRecDepth 100000 in
/-- cell -/
theorem c_M_cell (l : Launch) (dC : Nat → ClassId) (dI : Nat → Nat → Nat) (h0 sz : Nat) (fs : List Value) (a1 : Int32) : Met l yX13_cell (.code yX13_cell cX13_cell 7 (some .int) :: wP) ({ frames := 0, cells := 0, slots := 0, locals := 0 }) (va_Pc [.ref h0, .int a1] (fun U => U.heap.size = sz ∧ kJ 180 [(3, .int 0), (110, .int 0), (123, .int 0)] fs ∧ va_P (dC, dI) vwCl [(h0, .inr (13, fs))] U.heap ∧ va_K (dC, dI) vwCl [] U ∧ va_D (fun _ => True) [(h0, .inr (13, fs))])) (va_Qi (fun r (_ : Unit) => r = 0) (fun (_ : Unit) (_ : State) => True) (va_A [(h0, .inr (13, fs))] sz)) 0 0 (va_A [(h0, .inr (13, fs))] sz) := by
  refine Met.ofW (cc := cX13_cell) (maxL := 7) (ret := (some .int)) (by decide) rfl ?_
  intro p e s m args below meth c s₁ B hml hv
  obtain ⟨rfl, hsz, hJ, hP, hK, hD0⟩ := hv
  have hx := B.exec
  have hb := B.bytes
  have hr := B.returns
  have hts := atoms_spec (ws := .code yX13_cell cX13_cell 7 (some .int) :: wP) B.pre
  have hown : s.vm.findClass RX13 = some m.cls := findClass_of_methodNamed B.named
  subst hsz
  have hD := hD0.self (sz := s.heap.size)
  generalize hAe : va_A [(h0, .inr (13, fs))] s.heap.size = A at hD ⊢
  have hA : ∀ q : Nat, s.heap.size ≤ q → A q := fun q h => by rw [← hAe]; exact Or.inr h
  have hS : va_S A s.heap s.heap [] := va_S.rf
  have hl := lv_entry ([.ref h0, .int a1]) (n := 7) (Nat.le_of_ble_eq_true rfl)
  rw [lg_entry_eq]
  generalize (lg_sl ([.ref h0, .int a1]) ++ List.replicate (7 - (lg_sl ([.ref h0, .int a1])).length) Slot.unset).toArray = ls at hl ⊢
  obtain ⟨H, hHe⟩ : ∃ H, H = s.heap := ⟨_, rfl⟩
  rw [← hHe] at hP ⊢
  have hS : va_S A s.heap H [] := by rw [hHe]; exact hS
  have hl : lv_has ls 7 [(0, .ref h0), (1, .int a1)] := hl
  refine lv_aload_n hx hb dX13_cell_0 rfl (lv_at hl 0 rfl) ?_
  refine lv_iconst (v := 0) hx hb dX13_cell_1 (by decide) ?_
  refine kq_put [(1, .int 0), (3, .int 0), (110, .int 0), (123, .int 0)] hts iX13 tyX13 tyX13_ok nmX13 hx hb hown hK hP hD hS 0 rfl rfl hJ 1 (by decide) (by decide) (hts _ (bP 135 rfl)) rfl (ty := .int) (by decide +kernel) (v := .int 0) rfl rfl dX13_cell_2 (fun f h => kJ_put h _ _ (by decide)) (fun H locs fs hJ hP hD hS => ?_)
  have hP : va_P (dC, dI) vwCl [(h0, .inr (13, fs))] H := hP
  have hD : va_D A [(h0, .inr (13, fs))] := hD
  refine lv_aload_n hx hb dX13_cell_5 rfl (lv_at hl 0 rfl) ?_
  refine va_get (D := (dC, dI)) (ci := 13) (v := .int 0) (C := RX13) (T := TX13) (N := 180) hx hb hts iX13 hown hK hP 0 rfl rfl 123 (by decide) (hts _ (bP 136 rfl)) (fun _ h9 => h9) (kJ_at hJ 3 rfl) dX13_cell_6 ?_
  refine lv_if_eq (tgt := 23) hx hb dX13_cell_9 (by decide) (fun _ => ?_) (fun h => absurd h (by decide))
  refine lv_iconst (v := 0) hx hb dX13_cell_23 (by decide) ?_
  exact W.iret (v := 0) hx hb hr (fun t ht hW => ⟨⟨0, (), rfl, rfl, trivial⟩, hS.F ht⟩) hS.2.2 dX13_cell_24
set_option maxHeartbeats 4000000 in
set_option maxRecDepth 100000 in
/-- meeting -/
theorem c_M_meeting (l : Launch) (dC : Nat → ClassId) (dI : Nat → Nat → Nat) (h0 sz : Nat) (fs : List Value) (a1 : Int32) (a2 : Int32) : Met l yX13_meeting (.code yX13_meeting cX13_meeting 3 (some .int) :: wP) ({ frames := 0, cells := 0, slots := 0, locals := 0 }) (va_Pc [.ref h0, .int a1, .int a2] (fun U => U.heap.size = sz ∧ kJ 180 [(3, .int 0), (110, .int 0), (123, .int 0)] fs ∧ va_P (dC, dI) vwCl [(h0, .inr (13, fs))] U.heap ∧ va_K (dC, dI) vwCl [] U ∧ va_D (fun _ => True) [(h0, .inr (13, fs))])) (va_Qi (fun r (_ : Unit) => r = -1) (fun (_ : Unit) (_ : State) => True) (va_A [(h0, .inr (13, fs))] sz)) 0 0 (va_A [(h0, .inr (13, fs))] sz) := by
  refine Met.ofW (cc := cX13_meeting) (maxL := 3) (ret := (some .int)) (by decide) rfl ?_
  intro p e s m args below meth c s₁ B hml hv
  obtain ⟨rfl, hsz, hJ, hP, hK, hD0⟩ := hv
  have hx := B.exec
  have hb := B.bytes
  have hr := B.returns
  have hts := atoms_spec (ws := .code yX13_meeting cX13_meeting 3 (some .int) :: wP) B.pre
  have hown : s.vm.findClass RX13 = some m.cls := findClass_of_methodNamed B.named
  subst hsz
  have hD := hD0.self (sz := s.heap.size)
  generalize hAe : va_A [(h0, .inr (13, fs))] s.heap.size = A at hD ⊢
  have hA : ∀ q : Nat, s.heap.size ≤ q → A q := fun q h => by rw [← hAe]; exact Or.inr h
  have hS : va_S A s.heap s.heap [] := va_S.rf
  have hl := lv_entry ([.ref h0, .int a1, .int a2]) (n := 3) (Nat.le_of_ble_eq_true rfl)
  rw [lg_entry_eq]
  generalize (lg_sl ([.ref h0, .int a1, .int a2]) ++ List.replicate (3 - (lg_sl ([.ref h0, .int a1, .int a2])).length) Slot.unset).toArray = ls at hl ⊢
  obtain ⟨H, hHe⟩ : ∃ H, H = s.heap := ⟨_, rfl⟩
  rw [← hHe] at hP ⊢
  have hS : va_S A s.heap H [] := by rw [hHe]; exact hS
  have hl : lv_has ls 3 [(0, .ref h0), (1, .int a1), (2, .int a2)] := hl
  refine lv_aload_n hx hb dX13_meeting_0 rfl (lv_at hl 0 rfl) ?_
  refine lv_iconst (v := 0) hx hb dX13_meeting_1 (by decide) ?_
  refine kq_put [(1, .int 0), (3, .int 0), (110, .int 0), (123, .int 0)] hts iX13 tyX13 tyX13_ok nmX13 hx hb hown hK hP hD hS 0 rfl rfl hJ 1 (by decide) (by decide) (hts _ (bP 135 rfl)) rfl (ty := .int) (by decide +kernel) (v := .int 0) rfl rfl dX13_meeting_2 (fun f h => kJ_put h _ _ (by decide)) (fun H locs fs hJ hP hD hS => ?_)
  have hP : va_P (dC, dI) vwCl [(h0, .inr (13, fs))] H := hP
  have hD : va_D A [(h0, .inr (13, fs))] := hD
  refine lv_aload_n hx hb dX13_meeting_5 rfl (lv_at hl 0 rfl) ?_
  refine va_get (D := (dC, dI)) (ci := 13) (v := .int 0) (C := RX13) (T := TX13) (N := 180) hx hb hts iX13 hown hK hP 0 rfl rfl 123 (by decide) (hts _ (bP 136 rfl)) (fun _ h9 => h9) (kJ_at hJ 3 rfl) dX13_meeting_6 ?_
  refine lv_if_eq (tgt := 40) hx hb dX13_meeting_9 (by decide) (fun _ => ?_) (fun h => absurd h (by decide))
  refine lv_iconst (v := (-1)) hx hb dX13_meeting_40 (by decide) ?_
  exact W.iret (v := (-1)) hx hb hr (fun t ht hW => ⟨⟨(-1), (), rfl, rfl, trivial⟩, hS.F ht⟩) hS.2.2 dX13_meeting_41
set_option maxHeartbeats 4000000 in
set_option maxRecDepth 100000 in
/-- clashes -/
theorem c_M_clashes (l : Launch) (dC : Nat → ClassId) (dI : Nat → Nat → Nat) (h0 sz : Nat) (fs : List Value) : Met l yX13_clashes (.code yX13_clashes cX13_clashes 1 (some .int) :: wP) ({ frames := 0, cells := 0, slots := 0, locals := 0 }) (va_Pc [.ref h0] (fun U => U.heap.size = sz ∧ kJ 180 [(3, .int 0), (110, .int 0), (123, .int 0)] fs ∧ va_P (dC, dI) vwCl [(h0, .inr (13, fs))] U.heap ∧ va_K (dC, dI) vwCl [] U ∧ va_D (fun _ => True) [(h0, .inr (13, fs))])) (va_Qi (fun r (_ : Unit) => r = 0) (fun (_ : Unit) (_ : State) => True) (va_A [(h0, .inr (13, fs))] sz)) 0 0 (va_A [(h0, .inr (13, fs))] sz) := by
  refine Met.ofW (cc := cX13_clashes) (maxL := 1) (ret := (some .int)) (by decide) rfl ?_
  intro p e s m args below meth c s₁ B hml hv
  obtain ⟨rfl, hsz, hJ, hP, hK, hD0⟩ := hv
  have hx := B.exec
  have hb := B.bytes
  have hr := B.returns
  have hts := atoms_spec (ws := .code yX13_clashes cX13_clashes 1 (some .int) :: wP) B.pre
  have hown : s.vm.findClass RX13 = some m.cls := findClass_of_methodNamed B.named
  subst hsz
  have hD := hD0.self (sz := s.heap.size)
  generalize hAe : va_A [(h0, .inr (13, fs))] s.heap.size = A at hD ⊢
  have hA : ∀ q : Nat, s.heap.size ≤ q → A q := fun q h => by rw [← hAe]; exact Or.inr h
  have hS : va_S A s.heap s.heap [] := va_S.rf
  have hl := lv_entry ([.ref h0]) (n := 1) (Nat.le_of_ble_eq_true rfl)
  rw [lg_entry_eq]
  generalize (lg_sl ([.ref h0]) ++ List.replicate (1 - (lg_sl ([.ref h0])).length) Slot.unset).toArray = ls at hl ⊢
  obtain ⟨H, hHe⟩ : ∃ H, H = s.heap := ⟨_, rfl⟩
  rw [← hHe] at hP ⊢
  have hS : va_S A s.heap H [] := by rw [hHe]; exact hS
  have hl : lv_has ls 1 [(0, .ref h0)] := hl
  refine lv_aload_n hx hb dX13_clashes_0 rfl (lv_at hl 0 rfl) ?_
  refine lv_iconst (v := 0) hx hb dX13_clashes_1 (by decide) ?_
  refine kq_put [(1, .int 0), (3, .int 0), (110, .int 0), (123, .int 0)] hts iX13 tyX13 tyX13_ok nmX13 hx hb hown hK hP hD hS 0 rfl rfl hJ 1 (by decide) (by decide) (hts _ (bP 135 rfl)) rfl (ty := .int) (by decide +kernel) (v := .int 0) rfl rfl dX13_clashes_2 (fun f h => kJ_put h _ _ (by decide)) (fun H locs fs hJ hP hD hS => ?_)
  have hP : va_P (dC, dI) vwCl [(h0, .inr (13, fs))] H := hP
  have hD : va_D A [(h0, .inr (13, fs))] := hD
  refine lv_aload_n hx hb dX13_clashes_5 rfl (lv_at hl 0 rfl) ?_
  refine va_get (D := (dC, dI)) (ci := 13) (v := .int 0) (C := RX13) (T := TX13) (N := 180) hx hb hts iX13 hown hK hP 0 rfl rfl 123 (by decide) (hts _ (bP 136 rfl)) (fun _ h9 => h9) (kJ_at hJ 3 rfl) dX13_clashes_6 ?_
  refine lv_if_eq (tgt := 19) hx hb dX13_clashes_9 (by decide) (fun _ => ?_) (fun h => absurd h (by decide))
  refine lv_iconst (v := 0) hx hb dX13_clashes_19 (by decide) ?_
  exact W.iret (v := 0) hx hb hr (fun t ht hW => ⟨⟨0, (), rfl, rfl, trivial⟩, hS.F ht⟩) hS.2.2 dX13_clashes_20

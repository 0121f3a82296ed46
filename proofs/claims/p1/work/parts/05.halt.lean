/-! The exception that the reference throws: made once, in the constructor, without a trace -/
set_option maxHeartbeats 4000000 in
set_option maxRecDepth 100000 in
/-- Throwable(text, null, false, false): no trace -/
theorem c_T4 (l : Launch) (dC : Nat → ClassId) (dI : Nat → Nat → Nat) (h0 qm sz : Nat) (fs : List Value) : Met l yT4 (.code yT4 cT4 5 none :: wP) ({ frames := 1, cells := 0, slots := 0, locals := 12 }) (va_Pc [.ref h0, .ref qm, .null, .int 0, .int 0] (fun U => U.heap.size = sz ∧ kJ 6 [] fs ∧ va_P (dC, dI) vwCl [(h0, .inr (12, fs))] U.heap ∧ va_K (dC, dI) vwCl [] U ∧ va_D (fun _ => True) [(h0, .inr (12, fs))] ∧ tZ (va_A [(h0, .inr (12, fs))] sz) U U.heap)) (va_Qv (fun fs1 : List Value => kJ 6 [] fs1) (fun (fs1 : List Value) (t : State) => va_P (dC, dI) vwCl [(h0, .inr (12, fs1))] t.heap ∧ va_K (dC, dI) vwCl [] t ∧ va_D (va_A [(h0, .inr (12, fs))] sz) [(h0, .inr (12, fs1))]) (va_A [(h0, .inr (12, fs))] sz)) 0 0 (va_A [(h0, .inr (12, fs))] sz) := by
  refine Met.ofW (cc := cT4) (maxL := 5) (ret := none) (by decide) rfl ?_
  intro p e s m args below meth c s₁ B hml hv
  obtain ⟨rfl, hsz, hJ, hP, hK, hD0, hZ⟩ := hv
  have hx := B.exec
  have hb := B.bytes
  have hr := B.returns
  have hts := atoms_spec (ws := .code yT4 cT4 5 none :: wP) B.pre
  have hown : s.vm.findClass RTh = some m.cls := findClass_of_methodNamed B.named
  subst hsz
  have hD := hD0.self (sz := s.heap.size)
  generalize hAe : va_A [(h0, .inr (12, fs))] s.heap.size = A at hD hZ ⊢
  have hA : ∀ q : Nat, s.heap.size ≤ q → A q := fun q h => by rw [← hAe]; exact Or.inr h
  have hS : va_S A s.heap s.heap [] := va_S.rf
  have hP : va_P (dC, dI) vwCl [(h0, .inr (12, fs))] s.heap := hP
  have hl := lv_entry ([.ref h0, .ref qm, .null, .int 0, .int 0]) (n := 5) (Nat.le_of_ble_eq_true rfl)
  rw [lg_entry_eq]
  generalize (lg_sl ([.ref h0, .ref qm, .null, .int 0, .int 0]) ++ List.replicate (5 - (lg_sl ([.ref h0, .ref qm, .null, .int 0, .int 0])).length) Slot.unset).toArray = ls at hl ⊢
  have hl : lv_has ls 5 [(0, .ref h0), (1, .ref qm), (2, .null), (3, .int 0), (4, .int 0)] := hl
  obtain ⟨v1, hZ1, -, hv1⟩ := zq_val hZ.1
  obtain ⟨v2, hZ2, hv2, -⟩ := zq_val hZ.2
  refine lv_aload_n hx hb dT4_0 rfl (lv_at hl 0 rfl) ?_
  refine W.objInit hx hb hown (hts _ (bP 128 rfl)) (hts _ (bP 1 rfl)) (hts _ (bP 2 rfl)) rfl (by rw [hml]; exact hl.1) rfl dT4_1 (Nat.le_of_ble_eq_true rfl) (Nat.le_of_ble_eq_true rfl) ?_
  refine W.eq (g2 := F0 m 4 ls []) rfl ?_
  refine lv_aload_n hx hb dT4_4 rfl (lv_at hl 0 rfl) ?_
  refine lv_aload_n hx hb dT4_5 rfl (lv_at hl 0 rfl) ?_
  refine k_put [] hts iX12 tyX12 tyX12_ok nmX12 hx hb hown hK rfl hJ hP hD hS 0 (by decide) (by decide) (hts _ (bP 129 rfl)) rfl (ty := .object "java/lang/Throwable") (by decide +kernel) (v := .ref h0) rfl rfl dT4_6 (fun f h => kJ_set h _ _ rfl) (fun H locs fs hJ hP hD hS => ?_)
  refine lv_aload_n hx hb dT4_9 rfl (lv_at hl 0 rfl) ?_
  refine va_gets hx hb hZ1 hS hown (hts _ (bP 130 rfl)) (fun _ h9 => h9) dT4_10 ?_
  refine k_put [] hts iX12 tyX12 tyX12_ok nmX12 hx hb hown hK rfl hJ hP hD hS 1 (by decide) (by decide) (hts _ (bP 131 rfl)) rfl (ty := .array (.object "java/lang/StackTraceElement")) (by decide +kernel) (v := v1) (hv1 _).1 (hv1 _).2 dT4_13 (fun f h => kJ_set h _ _ rfl) (fun H locs fs hJ hP hD hS => ?_)
  refine lv_aload_n hx hb dT4_16 rfl (lv_at hl 0 rfl) ?_
  refine va_gets hx hb hZ2 hS hown (hts _ (bP 132 rfl)) (fun _ h9 => h9) dT4_17 ?_
  refine k_put [] hts iX12 tyX12 tyX12_ok nmX12 hx hb hown hK rfl hJ hP hD hS 2 (by decide) (by decide) (hts _ (bP 133 rfl)) rfl (ty := .object "java/util/List") (by decide +kernel) (v := v2) (hv2 _).1 (hv2 _).2 dT4_20 (fun f h => kJ_set h _ _ rfl) (fun H locs fs hJ hP hD hS => ?_)
  refine lv_iload hx hb dT4_23 (lv_at hl 4 rfl) ?_
  refine lv_if_eq (tgt := 36) hx hb dT4_25 (by decide) (fun _ => ?_) (fun h => absurd rfl h)
  refine lv_aload_n hx hb dT4_36 rfl (lv_at hl 0 rfl) ?_
  refine lv_null hx hb dT4_37 ?_
  refine k_put [] hts iX12 tyX12 tyX12_ok nmX12 hx hb hown hK rfl hJ hP hD hS 1 (by decide) (by decide) (hts _ (bP 131 rfl)) rfl (ty := .array (.object "java/lang/StackTraceElement")) (by decide +kernel) (v := .null) rfl rfl dT4_38 (fun f h => kJ_set h _ _ rfl) (fun H locs fs hJ hP hD hS => ?_)
  refine lv_aload_n hx hb dT4_41 rfl (lv_at hl 0 rfl) ?_
  refine lv_aload_n hx hb dT4_42 rfl (lv_at hl 1 rfl) ?_
  refine k_put [] hts iX12 tyX12 tyX12_ok nmX12 hx hb hown hK rfl hJ hP hD hS 3 (by decide) (by decide) (hts _ (bP 134 rfl)) rfl (ty := .object "java/lang/String") (by decide +kernel) (v := .ref qm) rfl rfl dT4_43 (fun f h => kJ_set h _ _ rfl) (fun H locs fs hJ hP hD hS => ?_)
  refine lv_aload_n hx hb dT4_46 rfl (lv_at hl 0 rfl) ?_
  refine lv_aload_nN hx hb dT4_47 rfl (lv_at hl 2 rfl) ?_
  refine k_put [] hts iX12 tyX12 tyX12_ok nmX12 hx hb hown hK rfl hJ hP hD hS 0 (by decide) (by decide) (hts _ (bP 129 rfl)) rfl (ty := .object "java/lang/Throwable") (by decide +kernel) (v := .null) rfl rfl dT4_48 (fun f h => kJ_set h _ _ rfl) (fun H locs fs hJ hP hD hS => ?_)
  refine lv_iload_n hx hb dT4_51 rfl (lv_at hl 3 rfl) ?_
  refine lv_if_ne (tgt := 60) hx hb dT4_52 (by decide) (fun h => absurd rfl h) (fun _ => ?_)
  refine lv_aload_n hx hb dT4_55 rfl (lv_at hl 0 rfl) ?_
  refine lv_null hx hb dT4_56 ?_
  refine k_put [] hts iX12 tyX12 tyX12_ok nmX12 hx hb hown hK rfl hJ hP hD hS 2 (by decide) (by decide) (hts _ (bP 133 rfl)) rfl (ty := .object "java/util/List") (by decide +kernel) (v := .null) rfl rfl dT4_57 (fun f h => kJ_set h _ _ rfl) (fun H locs fs hJ hP hD hS => ?_)
  exact W.vret hx hb hr (fun t ht hW => ⟨⟨fs, rfl, hJ, by rw [ht]; exact hP, va_K.moved hW.alike hK, hD⟩, hS.F ht⟩) hS.2.2 dT4_60
set_option maxHeartbeats 4000000 in
set_option maxRecDepth 100000 in
/-- c_E4 -/
theorem c_E4 (l : Launch) (dC : Nat → ClassId) (dI : Nat → Nat → Nat) (h0 qm sz : Nat) (fs : List Value) : Met l yE4 (.code yE4 cE4 5 none :: wP) ({ frames := 2, cells := 0, slots := 0, locals := 36 }) (va_Pc [.ref h0, .ref qm, .null, .int 0, .int 0] (fun U => U.heap.size = sz ∧ kJ 6 [] fs ∧ va_P (dC, dI) vwCl [(h0, .inr (12, fs))] U.heap ∧ va_K (dC, dI) vwCl [] U ∧ va_D (fun _ => True) [(h0, .inr (12, fs))] ∧ tZ (va_A [(h0, .inr (12, fs))] sz) U U.heap)) (va_Qv (fun fs1 : List Value => kJ 6 [] fs1) (fun (fs1 : List Value) (t : State) => va_P (dC, dI) vwCl [(h0, .inr (12, fs1))] t.heap ∧ va_K (dC, dI) vwCl [] t ∧ va_D (va_A [(h0, .inr (12, fs))] sz) [(h0, .inr (12, fs1))]) (va_A [(h0, .inr (12, fs))] sz)) 0 0 (va_A [(h0, .inr (12, fs))] sz) := by
  refine Met.ofW (cc := cE4) (maxL := 5) (ret := none) (by decide) rfl ?_
  intro p e s m args below meth c s₁ B hml hv
  obtain ⟨rfl, hsz, hJ, hP, hK, hD0, hZ⟩ := hv
  have hx := B.exec
  have hb := B.bytes
  have hr := B.returns
  have hts := atoms_spec (ws := .code yE4 cE4 5 none :: wP) B.pre
  have hown : s.vm.findClass REx = some m.cls := findClass_of_methodNamed B.named
  subst hsz
  have hD := hD0.self (sz := s.heap.size)
  generalize hAe : va_A [(h0, .inr (12, fs))] s.heap.size = A at hD hZ ⊢
  have hA : ∀ q : Nat, s.heap.size ≤ q → A q := fun q h => by rw [← hAe]; exact Or.inr h
  have hS : va_S A s.heap s.heap [] := va_S.rf
  have hP : va_P (dC, dI) vwCl [(h0, .inr (12, fs))] s.heap := hP
  have hl := lv_entry ([.ref h0, .ref qm, .null, .int 0, .int 0]) (n := 5) (Nat.le_of_ble_eq_true rfl)
  rw [lg_entry_eq]
  generalize (lg_sl ([.ref h0, .ref qm, .null, .int 0, .int 0]) ++ List.replicate (5 - (lg_sl ([.ref h0, .ref qm, .null, .int 0, .int 0])).length) Slot.unset).toArray = ls at hl ⊢
  have hl : lv_has ls 5 [(0, .ref h0), (1, .ref qm), (2, .null), (3, .int 0), (4, .int 0)] := hl
  refine lv_aload_n hx hb dE4_0 rfl (lv_at hl 0 rfl) ?_
  refine lv_aload_n hx hb dE4_1 rfl (lv_at hl 1 rfl) ?_
  refine lv_aload_nN hx hb dE4_2 rfl (lv_at hl 2 rfl) ?_
  refine lv_iload_n hx hb dE4_3 rfl (lv_at hl 3 rfl) ?_
  refine lv_iload hx hb dE4_4 (lv_at hl 4 rfl) ?_
  obtain ⟨H, hHe⟩ : ∃ H, H = s.heap := ⟨_, rfl⟩
  rw [← hHe] at hP ⊢
  have hS : va_S A s.heap H [] := by rw [hHe]; exact hS
  have hZc : tZ (va_A [(h0, .inr (12, fs))] H.size) s H := (hZ.kept (fun a h1 h2 => hS.2.1 a h1 h2)).narrow (fun q h => by
    rcases h with ⟨k, e9, h⟩ | h
    · exact hD.2 k _ h
    · exact hA q (Nat.le_trans hS.1 h))
  have hFc := va_free (wc := [(h0, .inr (12, fs))]) hD hS hA [0] rfl
  refine va_callv (va_runI (As := [.ref qm, .null, .int 0, .int 0]) (rest := []) ⟨hx, hb, hml, hown, hts⟩ (c_T4 l dC dI h0 qm H.size fs) (cwI 4 hts (gP _ 126 rfl) rfl rfl rfl (hts _ (bP 127 rfl)) (hts _ (bP 124 rfl)) (hts _ (bP 125 rfl)) rfl (by decide +kernel) ⟨Nat.le_of_ble_eq_true rfl, Nat.le_of_ble_eq_true rfl⟩) ⟨fun a U g mk q => by obtain ⟨q0, q1, qJ, qP, qK, qD, qZ⟩ := q; exact ⟨q0, q1, qJ, qP, va_K.moved (u := U) (U := U.calling g mk a) (Vm.Alike.refl U.vm) qK, qD, tZ.moved (u := U) (U := U.calling g mk a) (Vm.Alike.refl U.vm) qZ⟩, fun U hU hW => ⟨rfl, by rw [hU], hJ, by rw [hU]; exact hP, va_K.moved hW.alike hK, hD.weaken (fun _ _ _ _ => trivial), by rw [hU]; exact tZ.moved hW.alike hZc⟩⟩ rfl rfl hl.1 rfl (lv_room (Nat.le_of_ble_eq_true rfl)) dE4_6 ⟨by simp, by simp⟩) hS (fun q _ h => hFc q h) hFc (fun u t H1 locs ht hvm hw hB hz1 hk1 hS => ?_)
  obtain ⟨fs1, rfl⟩ : ∃ z, z = u := ⟨_, rfl⟩
  obtain ⟨hP1, hK1, hD1⟩ := hB
  rw [ht] at hP1
  have hD1 := hD1.weaken (fun _ q _ h => hFc q.1 h)
  exact W.vret hx hb hr (fun t2 ht2 hW2 => ⟨⟨fs1, rfl, hw, by rw [ht2]; exact hP1, va_K.moved hW2.alike (va_K.moved hvm.symm hK1), hD1⟩, hS.F ht2⟩) hS.2.2 dE4_9
set_option maxHeartbeats 4000000 in
set_option maxRecDepth 100000 in
/-- c_R4 -/
theorem c_R4 (l : Launch) (dC : Nat → ClassId) (dI : Nat → Nat → Nat) (h0 qm sz : Nat) (fs : List Value) : Met l yR4 (.code yR4 cR4 5 none :: wP) ({ frames := 3, cells := 0, slots := 0, locals := 60 }) (va_Pc [.ref h0, .ref qm, .null, .int 0, .int 0] (fun U => U.heap.size = sz ∧ kJ 6 [] fs ∧ va_P (dC, dI) vwCl [(h0, .inr (12, fs))] U.heap ∧ va_K (dC, dI) vwCl [] U ∧ va_D (fun _ => True) [(h0, .inr (12, fs))] ∧ tZ (va_A [(h0, .inr (12, fs))] sz) U U.heap)) (va_Qv (fun fs1 : List Value => kJ 6 [] fs1) (fun (fs1 : List Value) (t : State) => va_P (dC, dI) vwCl [(h0, .inr (12, fs1))] t.heap ∧ va_K (dC, dI) vwCl [] t ∧ va_D (va_A [(h0, .inr (12, fs))] sz) [(h0, .inr (12, fs1))]) (va_A [(h0, .inr (12, fs))] sz)) 0 0 (va_A [(h0, .inr (12, fs))] sz) := by
  refine Met.ofW (cc := cR4) (maxL := 5) (ret := none) (by decide) rfl ?_
  intro p e s m args below meth c s₁ B hml hv
  obtain ⟨rfl, hsz, hJ, hP, hK, hD0, hZ⟩ := hv
  have hx := B.exec
  have hb := B.bytes
  have hr := B.returns
  have hts := atoms_spec (ws := .code yR4 cR4 5 none :: wP) B.pre
  have hown : s.vm.findClass RRt = some m.cls := findClass_of_methodNamed B.named
  subst hsz
  have hD := hD0.self (sz := s.heap.size)
  generalize hAe : va_A [(h0, .inr (12, fs))] s.heap.size = A at hD hZ ⊢
  have hA : ∀ q : Nat, s.heap.size ≤ q → A q := fun q h => by rw [← hAe]; exact Or.inr h
  have hS : va_S A s.heap s.heap [] := va_S.rf
  have hP : va_P (dC, dI) vwCl [(h0, .inr (12, fs))] s.heap := hP
  have hl := lv_entry ([.ref h0, .ref qm, .null, .int 0, .int 0]) (n := 5) (Nat.le_of_ble_eq_true rfl)
  rw [lg_entry_eq]
  generalize (lg_sl ([.ref h0, .ref qm, .null, .int 0, .int 0]) ++ List.replicate (5 - (lg_sl ([.ref h0, .ref qm, .null, .int 0, .int 0])).length) Slot.unset).toArray = ls at hl ⊢
  have hl : lv_has ls 5 [(0, .ref h0), (1, .ref qm), (2, .null), (3, .int 0), (4, .int 0)] := hl
  refine lv_aload_n hx hb dR4_0 rfl (lv_at hl 0 rfl) ?_
  refine lv_aload_n hx hb dR4_1 rfl (lv_at hl 1 rfl) ?_
  refine lv_aload_nN hx hb dR4_2 rfl (lv_at hl 2 rfl) ?_
  refine lv_iload_n hx hb dR4_3 rfl (lv_at hl 3 rfl) ?_
  refine lv_iload hx hb dR4_4 (lv_at hl 4 rfl) ?_
  obtain ⟨H, hHe⟩ : ∃ H, H = s.heap := ⟨_, rfl⟩
  rw [← hHe] at hP ⊢
  have hS : va_S A s.heap H [] := by rw [hHe]; exact hS
  have hZc : tZ (va_A [(h0, .inr (12, fs))] H.size) s H := (hZ.kept (fun a h1 h2 => hS.2.1 a h1 h2)).narrow (fun q h => by
    rcases h with ⟨k, e9, h⟩ | h
    · exact hD.2 k _ h
    · exact hA q (Nat.le_trans hS.1 h))
  have hFc := va_free (wc := [(h0, .inr (12, fs))]) hD hS hA [0] rfl
  refine va_callv (va_runI (As := [.ref qm, .null, .int 0, .int 0]) (rest := []) ⟨hx, hb, hml, hown, hts⟩ (c_E4 l dC dI h0 qm H.size fs) (cwI 4 hts (gP _ 122 rfl) rfl rfl rfl (hts _ (bP 123 rfl)) (hts _ (bP 120 rfl)) (hts _ (bP 121 rfl)) rfl (by decide +kernel) ⟨Nat.le_of_ble_eq_true rfl, Nat.le_of_ble_eq_true rfl⟩) ⟨fun a U g mk q => by obtain ⟨q0, q1, qJ, qP, qK, qD, qZ⟩ := q; exact ⟨q0, q1, qJ, qP, va_K.moved (u := U) (U := U.calling g mk a) (Vm.Alike.refl U.vm) qK, qD, tZ.moved (u := U) (U := U.calling g mk a) (Vm.Alike.refl U.vm) qZ⟩, fun U hU hW => ⟨rfl, by rw [hU], hJ, by rw [hU]; exact hP, va_K.moved hW.alike hK, hD.weaken (fun _ _ _ _ => trivial), by rw [hU]; exact tZ.moved hW.alike hZc⟩⟩ rfl rfl hl.1 rfl (lv_room (Nat.le_of_ble_eq_true rfl)) dR4_6 ⟨by simp, by simp⟩) hS (fun q _ h => hFc q h) hFc (fun u t H1 locs ht hvm hw hB hz1 hk1 hS => ?_)
  obtain ⟨fs1, rfl⟩ : ∃ z, z = u := ⟨_, rfl⟩
  obtain ⟨hP1, hK1, hD1⟩ := hB
  rw [ht] at hP1
  have hD1 := hD1.weaken (fun _ q _ h => hFc q.1 h)
  exact W.vret hx hb hr (fun t2 ht2 hW2 => ⟨⟨fs1, rfl, hw, by rw [ht2]; exact hP1, va_K.moved hW2.alike (va_K.moved hvm.symm hK1), hD1⟩, hS.F ht2⟩) hS.2.2 dR4_9

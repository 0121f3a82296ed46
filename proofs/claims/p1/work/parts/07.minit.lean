abbrev mW (h0 : Nat) (fs fsH : List Value) (qh q2 q7 q8 q9 q10 : Nat) (c2 c7 c8 c9 c10 : ClassId) : va_W := [(h0, .inr (13, fs)), (qh, .inr (12, fsH)), (q2, .inl (c2, 6000, .inl (fun _ => 0))), (q7, .inl (c7, 12002, .inl (fun _ => 0))), (q8, .inl (c8, 12002, .inl (fun _ => 0))), (q9, .inl (c9, 12002, .inl (fun _ => 0))), (q10, .inl (c10, 12002, .inl (fun _ => 0)))]
abbrev mTy (c2 c7 c8 c9 c10 : ClassId) : List (ClassId × FieldType) := [(c2, .int), (c7, .int), (c8, .int), (c9, .int), (c10, .int)]
abbrev mU : Type := List Value × List Value × Nat × Nat × Nat × Nat × Nat × Nat × ClassId × ClassId × ClassId × ClassId × ClassId
/-- a new MeetingHouseModel -/
abbrev mPost (u : mU) : Prop := match u with
  | (fs, fsH, qh, q2, q7, q8, q9, q10, _, _, _, _, _) => kJ 180 (mL qh q2 q7 q8 q9 q10) fs ∧ kJ 6 [] fsH
abbrev mAt (D : va_G) (A : Nat → Prop) (h0 : Nat) (u : mU) (t : State) : Prop := match u with
  | (fs, fsH, qh, q2, q7, q8, q9, q10, c2, c7, c8, c9, c10) => va_P D vwCl (mW h0 fs fsH qh q2 q7 q8 q9 q10 c2 c7 c8 c9 c10) t.heap ∧ va_K D vwCl (mTy c2 c7 c8 c9 c10) t ∧ va_D A (mW h0 fs fsH qh q2 q7 q8 q9 q10 c2 c7 c8 c9 c10)
/-- what the constructor asks of the start: the statics of Throwable, the text constants, arrays of texts and of rows -/
def mPre (A : Nat → Prop) (U : State) : Prop := tZ A U U.heap ∧ (∃ qm, vk_R RX12 1 "" qm U) ∧ mStr A U ∧ va_AO "java/lang/String" U ∧ aO (.array .int) U
theorem mPre.moved {A B : Nat → Prop} {u U : State} (h : mPre A u) (hW : u.WarmedH U.vm) (hq : ∀ a : Nat, a < u.heap.size → ¬ A a → U.heap[a]? = u.heap[a]?) (hB : ∀ q, B q → A q) : mPre B U := by
  obtain ⟨h1, ⟨qm, h2⟩, h3, h4, h5⟩ := h
  exact ⟨((h1.kept hq).narrow hB).moved hW.alike, ⟨qm, vk_R.warm hW h2⟩, h3.moved hW hq hB, va_AO.moved hW.alike h4, aO.moved hW.alike h5⟩
set_option maxHeartbeats 4000000 in
set_option maxRecDepth 100000 in
/-- MeetingHouseModel() -/
theorem c_Minit (l : Launch) (dC : Nat → ClassId) (dI : Nat → Nat → Nat) (h0 sz : Nat) (fs : List Value) : Met l yX13_init (.code yX13_init cX13_init 1 none :: wP) ({ frames := 5, cells := 100, slots := 848008, locals := 104 }) (va_Pc [.ref h0] (fun U => U.heap.size = sz ∧ kJ 180 [(3, .int 0), (110, .int 0), (123, .int 0)] fs ∧ va_P (dC, dI) vwCl [(h0, .inr (13, fs))] U.heap ∧ va_K (dC, dI) vwCl [] U ∧ va_D (fun _ => True) [(h0, .inr (13, fs))] ∧ mPre (va_A [(h0, .inr (13, fs))] sz) U)) (va_Qv mPost (mAt (dC, dI) (va_A [(h0, .inr (13, fs))] sz) h0) (va_A [(h0, .inr (13, fs))] sz)) 100 848008 (va_A [(h0, .inr (13, fs))] sz) := by
  refine Met.ofW (cc := cX13_init) (maxL := 1) (ret := none) (by decide) rfl ?_
  intro p e s m args below meth c s₁ B hml hv
  obtain ⟨rfl, hsz, hJ, hP, hK, hD0, hpre⟩ := hv
  have hx := B.exec
  have hb := B.bytes
  have hr := B.returns
  have hts := atoms_spec (ws := .code yX13_init cX13_init 1 none :: wP) B.pre
  have hown : s.vm.findClass RX13 = some m.cls := findClass_of_methodNamed B.named
  have hin2 : meth.name = "<init>" := (name_of_methodNamed B.named B.method).1
  subst hsz
  have hD := hD0.self (sz := s.heap.size)
  generalize hAe : va_A [(h0, .inr (13, fs))] s.heap.size = A at hD hpre ⊢
  have hA : ∀ q : Nat, s.heap.size ≤ q → A q := fun q h => by rw [← hAe]; exact Or.inr h
  have hS : va_S A s.heap s.heap [] := va_S.rf
  have hl := lv_entry ([.ref h0]) (n := 1) (Nat.le_of_ble_eq_true rfl)
  rw [lg_entry_eq]
  generalize (lg_sl ([.ref h0]) ++ List.replicate (1 - (lg_sl ([.ref h0])).length) Slot.unset).toArray = ls at hl ⊢
  have hl : lv_has ls 1 [(0, .ref h0)] := hl
  obtain ⟨hZ, ⟨qm, hqm⟩, hstr, hao1, hao2⟩ := hpre
  refine lv_aload_n hx hb dX13_init_0 rfl (lv_at hl 0 rfl) ?_
  refine W.objInit hx hb hown (hts _ (bP 0 rfl)) (hts _ (bP 1 rfl)) (hts _ (bP 2 rfl)) rfl (by rw [hml]; exact hl.1) rfl dX13_init_1 (Nat.le_of_ble_eq_true rfl) (Nat.le_of_ble_eq_true rfl) ?_
  refine W.eq (g2 := F0 m 4 ls []) rfl ?_
  refine lv_aload_n hx hb dX13_init_4 rfl (lv_at hl 0 rfl) ?_
  refine va_new (ci := 12) (fs := [.null, .null, .null, .null, .null, .int 0]) (C := RX12) (T := TX12) (N := 6) hx hb hts iX12 tyX12 tyX12_ok hown (hts _ (bP 3 rfl)) (hts _ (bP 4 rfl)) (hts _ (bP 5 rfl)) hK hP hD hS hA rfl (fun j hj => by match j, hj with | 0, _ => rfl | 1, _ => rfl | 2, _ => rfl | 3, _ => rfl | 4, _ => rfl | 5, _ => rfl | j + 6, h => exact absurd h (by omega)) (Nat.le_of_ble_eq_true rfl) (Nat.le_of_ble_eq_true rfl) dX13_init_5 (fun qh H hP hD hS => ?_)
  have hP : va_P (dC, dI) vwCl [(h0, .inr (13, fs)), (qh, .inr (12, [.null, .null, .null, .null, .null, .int 0]))] H := hP
  have hD : va_D A [(h0, .inr (13, fs)), (qh, .inr (12, [.null, .null, .null, .null, .null, .int 0]))] := hD
  obtain ⟨fsH, hfsH⟩ : ∃ z : List Value, z = [.null, .null, .null, .null, .null, .int 0] := ⟨_, rfl⟩
  rw [← hfsH] at hP hD
  have hJH : kJ 6 [] fsH := ⟨by rw [hfsH]; rfl, fun x hx => absurd hx List.not_mem_nil⟩
  clear hfsH
  refine lv_dup hx hb dX13_init_8 rfl ?_
  have hPc := hP.sub (ws' := [(qh, .inr (12, fsH))]) [1] rfl
  have hDc := hD.sub (ws' := [(qh, .inr (12, fsH))]) [1] (by decide) rfl
  have hFc := va_free (wc := [(qh, .inr (12, fsH))]) hD hS hA [1] rfl
  have hZc : tZ (va_A [(qh, .inr (12, fsH))] H.size) s H := (hZ.kept (fun a h1 h2 => hS.2.1 a h1 h2)).narrow (fun q h => hFc q h)
  refine va_callv (va_runI (As := []) (rest := [.ref qh, .ref h0]) ⟨hx, hb, hml, hown, hts⟩ (c_Halt l dC dI qh H.size fsH) (cwI 0 hts (gP _ 115 rfl) rfl rfl rfl (hts _ (bP 5 rfl)) (hts _ (bP 113 rfl)) (hts _ (bP 114 rfl)) rfl (by decide +kernel) ⟨Nat.le_of_ble_eq_true rfl, Nat.le_of_ble_eq_true rfl⟩) ⟨fun a U g mk q => by obtain ⟨q0, q1, qJ, qP, qK, qD, qZ, qm, qm1⟩ := q; exact ⟨q0, q1, qJ, qP, va_K.moved (u := U) (U := U.calling g mk a) (Vm.Alike.refl U.vm) qK, qD, tZ.moved (u := U) (U := U.calling g mk a) (Vm.Alike.refl U.vm) qZ, qm, vk_R.same (u := U) (U := U.calling g mk a) rfl qm1⟩, fun U hU hW => ⟨rfl, by rw [hU], hJH, by rw [hU]; exact hPc, va_K.moved hW.alike hK, hDc.weaken (fun _ _ _ _ => trivial), by rw [hU]; exact tZ.moved hW.alike hZc, qm, vk_R.warm hW hqm⟩⟩ rfl rfl hl.1 rfl (lv_room (Nat.le_of_ble_eq_true rfl)) dX13_init_9 ⟨Nat.le_of_ble_eq_true rfl, Nat.le_of_ble_eq_true rfl⟩) hS (fun q _ h => hFc q h) hFc (fun u t H1 locs ht hvm hw hB hz1 hk1 hS => ?_)
  obtain ⟨hP1, hK1, hD1⟩ := hB
  rw [ht] at hP1
  obtain ⟨hP, hD⟩ := va_join (wr := [(h0, .inr (13, fs))]) (w1 := [(qh, .inr (12, u))]) hP hD [1] [0] rfl rfl (by decide) (by decide) hk1 hFc hP1 hD1
  clear hPc hDc hFc hZc hP1 hK1 hD1 hJH
  have hJH : kJ 6 [] u := hw
  obtain ⟨fsH, hfsH⟩ : ∃ z, z = u := ⟨_, rfl⟩
  rw [← hfsH] at hP hD hJH
  clear hfsH hw
  generalize H1 = H at hP hS ⊢
  have hP : va_P (dC, dI) vwCl [(h0, .inr (13, fs)), (qh, .inr (12, fsH))] H := hP
  have hD : va_D A [(h0, .inr (13, fs)), (qh, .inr (12, fsH))] := hD
  refine k_putF ((0, .ref qh) :: [(3, .int 0), (110, .int 0), (123, .int 0)]) hts iX13 tyX13 tyX13_ok nmX13 hx hb hown hin2 hK rfl hJ hP hD hS 0 (by decide) (by decide) rfl (hts _ (bP 6 rfl)) rfl (ty := .object "MeetingHouseModel$Halt") (by decide +kernel) (v := .ref qh) rfl rfl dX13_init_12 (fun f h => kJ_add h _ _ rfl (by decide)) (fun H locs fs hJ hP hD hS => ?_)
  refine lv_aload_n hx hb dX13_init_15 rfl (lv_at hl 0 rfl) ?_
  refine lv_sipush (v := 6000) hx hb dX13_init_16 (by decide) ?_
  refine va_newa (ty := .int) (a0 := (6000, .inl (fun _ => 0))) hx hb (hts _ (bP 7 rfl)) rfl hK hP hD hS hA (fun _ => rfl) (by decide) (by decide) (by decide) (Nat.le_of_ble_eq_true rfl) (Nat.le_of_ble_eq_true rfl) dX13_init_19 (fun q2 c2 H hK hP hD hS => ?_)
  have hP : va_P (dC, dI) vwCl [(h0, .inr (13, fs)), (qh, .inr (12, fsH)), (q2, .inl (c2, 6000, .inl (fun _ => 0)))] H := hP
  have hD : va_D A [(h0, .inr (13, fs)), (qh, .inr (12, fsH)), (q2, .inl (c2, 6000, .inl (fun _ => 0)))] := hD
  have hK : va_K (dC, dI) vwCl [(c2, .int)] s := hK
  refine k_putF ((2, .ref q2) :: (0, .ref qh) :: [(3, .int 0), (110, .int 0), (123, .int 0)]) hts iX13 tyX13 tyX13_ok nmX13 hx hb hown hin2 hK rfl hJ hP hD hS 2 (by decide) (by decide) rfl (hts _ (bP 8 rfl)) rfl (ty := .array .int) (by decide +kernel) (v := .ref q2) rfl rfl dX13_init_21 (fun f h => kJ_add h _ _ rfl (by decide)) (fun H locs fs hJ hP hD hS => ?_)
  refine lv_aload_n hx hb dX13_init_24 rfl (lv_at hl 0 rfl) ?_
  refine lv_bipush (v := 36) hx hb dX13_init_25 (by decide) ?_
  refine va_newq (C := RJ0) (N' := 36) hx hb hown (hts _ (bP 9 rfl)) hao1 hK hP hD hS hA (by decide) (by decide) (by decide) (Nat.le_of_ble_eq_true rfl) (Nat.le_of_ble_eq_true rfl) dX13_init_27 (fun qs cs H hK hP hD hS => ?_)
  have hP := hP.sub (ws' := [(qs, .inl (cs, 36, .inr (.inr (.inr (.inr (fun _ => none)))))), (h0, .inr (13, fs)), (qh, .inr (12, fsH)), (q2, .inl (c2, 6000, .inl (fun _ => 0)))]) [3, 0, 1, 2] rfl
  have hD := hD.sub (ws' := [(qs, .inl (cs, 36, .inr (.inr (.inr (.inr (fun _ => none)))))), (h0, .inr (13, fs)), (qh, .inr (12, fsH)), (q2, .inl (c2, 6000, .inl (fun _ => 0)))]) [3, 0, 1, 2] (by decide) rfl
  refine lv_dup hx hb dX13_init_30 rfl ?_
  refine lv_iconst (v := 0) hx hb dX13_init_31 (by decide) ?_
  obtain ⟨w, hw⟩ := hstr 0 _ rfl
  refine va_ldcS hx hb hown hw.1 dX13_init_32 ?_
  refine k_aast hx hb hK hP hD hS 1 rfl (hw.any hS) (by unfold vp_in; decide) dX13_init_34 (fun H locs f hP hD hS => ?_)
  clear hw
  refine lv_dup hx hb dX13_init_35 rfl ?_
  refine lv_iconst (v := 1) hx hb dX13_init_36 (by decide) ?_
  obtain ⟨w, hw⟩ := hstr 1 _ rfl
  refine va_ldcS hx hb hown hw.1 dX13_init_37 ?_
  refine k_aast hx hb hK hP hD hS 1 rfl (hw.any hS) (by unfold vp_in; decide) dX13_init_39 (fun H locs f hP hD hS => ?_)
  clear hw
  refine lv_dup hx hb dX13_init_40 rfl ?_
  refine lv_iconst (v := 2) hx hb dX13_init_41 (by decide) ?_
  obtain ⟨w, hw⟩ := hstr 2 _ rfl
  refine va_ldcS hx hb hown hw.1 dX13_init_42 ?_
  refine k_aast hx hb hK hP hD hS 1 rfl (hw.any hS) (by unfold vp_in; decide) dX13_init_44 (fun H locs f hP hD hS => ?_)
  clear hw
  refine lv_dup hx hb dX13_init_45 rfl ?_
  refine lv_iconst (v := 3) hx hb dX13_init_46 (by decide) ?_
  obtain ⟨w, hw⟩ := hstr 3 _ rfl
  refine va_ldcS hx hb hown hw.1 dX13_init_47 ?_
  refine k_aast hx hb hK hP hD hS 1 rfl (hw.any hS) (by unfold vp_in; decide) dX13_init_49 (fun H locs f hP hD hS => ?_)
  clear hw
  refine lv_dup hx hb dX13_init_50 rfl ?_
  refine lv_iconst (v := 4) hx hb dX13_init_51 (by decide) ?_
  obtain ⟨w, hw⟩ := hstr 4 _ rfl
  refine va_ldcS hx hb hown hw.1 dX13_init_52 ?_
  refine k_aast hx hb hK hP hD hS 1 rfl (hw.any hS) (by unfold vp_in; decide) dX13_init_54 (fun H locs f hP hD hS => ?_)
  clear hw
  refine lv_dup hx hb dX13_init_55 rfl ?_
  refine lv_iconst (v := 5) hx hb dX13_init_56 (by decide) ?_
  obtain ⟨w, hw⟩ := hstr 5 _ rfl
  refine va_ldcS hx hb hown hw.1 dX13_init_57 ?_
  refine k_aast hx hb hK hP hD hS 1 rfl (hw.any hS) (by unfold vp_in; decide) dX13_init_59 (fun H locs f hP hD hS => ?_)
  clear hw
  refine lv_dup hx hb dX13_init_60 rfl ?_
  refine lv_bipush (v := 6) hx hb dX13_init_61 (by decide) ?_
  obtain ⟨w, hw⟩ := hstr 6 _ rfl
  refine va_ldcS hx hb hown hw.1 dX13_init_63 ?_
  refine k_aast hx hb hK hP hD hS 1 rfl (hw.any hS) (by unfold vp_in; decide) dX13_init_65 (fun H locs f hP hD hS => ?_)
  clear hw
  refine lv_dup hx hb dX13_init_66 rfl ?_
  refine lv_bipush (v := 7) hx hb dX13_init_67 (by decide) ?_
  obtain ⟨w, hw⟩ := hstr 7 _ rfl
  refine va_ldcS hx hb hown hw.1 dX13_init_69 ?_
  refine k_aast hx hb hK hP hD hS 1 rfl (hw.any hS) (by unfold vp_in; decide) dX13_init_71 (fun H locs f hP hD hS => ?_)
  clear hw
  refine lv_dup hx hb dX13_init_72 rfl ?_
  refine lv_bipush (v := 8) hx hb dX13_init_73 (by decide) ?_
  obtain ⟨w, hw⟩ := hstr 8 _ rfl
  refine va_ldcS hx hb hown hw.1 dX13_init_75 ?_
  refine k_aast hx hb hK hP hD hS 1 rfl (hw.any hS) (by unfold vp_in; decide) dX13_init_77 (fun H locs f hP hD hS => ?_)
  clear hw
  refine lv_dup hx hb dX13_init_78 rfl ?_
  refine lv_bipush (v := 9) hx hb dX13_init_79 (by decide) ?_
  obtain ⟨w, hw⟩ := hstr 9 _ rfl
  refine va_ldcS hx hb hown hw.1 dX13_init_81 ?_
  refine k_aast hx hb hK hP hD hS 1 rfl (hw.any hS) (by unfold vp_in; decide) dX13_init_83 (fun H locs f hP hD hS => ?_)
  clear hw
  refine lv_dup hx hb dX13_init_84 rfl ?_
  refine lv_bipush (v := 10) hx hb dX13_init_85 (by decide) ?_
  obtain ⟨w, hw⟩ := hstr 10 _ rfl
  refine va_ldcS hx hb hown hw.1 dX13_init_87 ?_
  refine k_aast hx hb hK hP hD hS 1 rfl (hw.any hS) (by unfold vp_in; decide) dX13_init_89 (fun H locs f hP hD hS => ?_)
  clear hw
  refine lv_dup hx hb dX13_init_90 rfl ?_
  refine lv_bipush (v := 11) hx hb dX13_init_91 (by decide) ?_
  obtain ⟨w, hw⟩ := hstr 11 _ rfl
  refine va_ldcS hx hb hown hw.1 dX13_init_93 ?_
  refine k_aast hx hb hK hP hD hS 1 rfl (hw.any hS) (by unfold vp_in; decide) dX13_init_95 (fun H locs f hP hD hS => ?_)
  clear hw
  refine lv_dup hx hb dX13_init_96 rfl ?_
  refine lv_bipush (v := 12) hx hb dX13_init_97 (by decide) ?_
  obtain ⟨w, hw⟩ := hstr 12 _ rfl
  refine va_ldcS hx hb hown hw.1 dX13_init_99 ?_
  refine k_aast hx hb hK hP hD hS 1 rfl (hw.any hS) (by unfold vp_in; decide) dX13_init_101 (fun H locs f hP hD hS => ?_)
  clear hw
  refine lv_dup hx hb dX13_init_102 rfl ?_
  refine lv_bipush (v := 13) hx hb dX13_init_103 (by decide) ?_
  obtain ⟨w, hw⟩ := hstr 13 _ rfl
  refine va_ldcS hx hb hown hw.1 dX13_init_105 ?_
  refine k_aast hx hb hK hP hD hS 1 rfl (hw.any hS) (by unfold vp_in; decide) dX13_init_107 (fun H locs f hP hD hS => ?_)
  clear hw
  refine lv_dup hx hb dX13_init_108 rfl ?_
  refine lv_bipush (v := 14) hx hb dX13_init_109 (by decide) ?_
  obtain ⟨w, hw⟩ := hstr 14 _ rfl
  refine va_ldcS hx hb hown hw.1 dX13_init_111 ?_
  refine k_aast hx hb hK hP hD hS 1 rfl (hw.any hS) (by unfold vp_in; decide) dX13_init_113 (fun H locs f hP hD hS => ?_)
  clear hw
  refine lv_dup hx hb dX13_init_114 rfl ?_
  refine lv_bipush (v := 15) hx hb dX13_init_115 (by decide) ?_
  obtain ⟨w, hw⟩ := hstr 15 _ rfl
  refine va_ldcS hx hb hown hw.1 dX13_init_117 ?_
  refine k_aast hx hb hK hP hD hS 1 rfl (hw.any hS) (by unfold vp_in; decide) dX13_init_119 (fun H locs f hP hD hS => ?_)
  clear hw
  refine lv_dup hx hb dX13_init_120 rfl ?_
  refine lv_bipush (v := 16) hx hb dX13_init_121 (by decide) ?_
  obtain ⟨w, hw⟩ := hstr 16 _ rfl
  refine va_ldcS hx hb hown hw.1 dX13_init_123 ?_
  refine k_aast hx hb hK hP hD hS 1 rfl (hw.any hS) (by unfold vp_in; decide) dX13_init_125 (fun H locs f hP hD hS => ?_)
  clear hw
  refine lv_dup hx hb dX13_init_126 rfl ?_
  refine lv_bipush (v := 17) hx hb dX13_init_127 (by decide) ?_
  obtain ⟨w, hw⟩ := hstr 17 _ rfl
  refine va_ldcS hx hb hown hw.1 dX13_init_129 ?_
  refine k_aast hx hb hK hP hD hS 1 rfl (hw.any hS) (by unfold vp_in; decide) dX13_init_131 (fun H locs f hP hD hS => ?_)
  clear hw
  refine lv_dup hx hb dX13_init_132 rfl ?_
  refine lv_bipush (v := 18) hx hb dX13_init_133 (by decide) ?_
  obtain ⟨w, hw⟩ := hstr 18 _ rfl
  refine va_ldcS hx hb hown hw.1 dX13_init_135 ?_
  refine k_aast hx hb hK hP hD hS 1 rfl (hw.any hS) (by unfold vp_in; decide) dX13_init_137 (fun H locs f hP hD hS => ?_)
  clear hw
  refine lv_dup hx hb dX13_init_138 rfl ?_
  refine lv_bipush (v := 19) hx hb dX13_init_139 (by decide) ?_
  obtain ⟨w, hw⟩ := hstr 19 _ rfl
  refine va_ldcS hx hb hown hw.1 dX13_init_141 ?_
  refine k_aast hx hb hK hP hD hS 1 rfl (hw.any hS) (by unfold vp_in; decide) dX13_init_143 (fun H locs f hP hD hS => ?_)
  clear hw
  refine lv_dup hx hb dX13_init_144 rfl ?_
  refine lv_bipush (v := 20) hx hb dX13_init_145 (by decide) ?_
  obtain ⟨w, hw⟩ := hstr 20 _ rfl
  refine va_ldcS hx hb hown hw.1 dX13_init_147 ?_
  refine k_aast hx hb hK hP hD hS 1 rfl (hw.any hS) (by unfold vp_in; decide) dX13_init_149 (fun H locs f hP hD hS => ?_)
  clear hw
  refine lv_dup hx hb dX13_init_150 rfl ?_
  refine lv_bipush (v := 21) hx hb dX13_init_151 (by decide) ?_
  obtain ⟨w, hw⟩ := hstr 21 _ rfl
  refine va_ldcS hx hb hown hw.1 dX13_init_153 ?_
  refine k_aast hx hb hK hP hD hS 1 rfl (hw.any hS) (by unfold vp_in; decide) dX13_init_155 (fun H locs f hP hD hS => ?_)
  clear hw
  refine lv_dup hx hb dX13_init_156 rfl ?_
  refine lv_bipush (v := 22) hx hb dX13_init_157 (by decide) ?_
  obtain ⟨w, hw⟩ := hstr 22 _ rfl
  refine va_ldcS hx hb hown hw.1 dX13_init_159 ?_
  refine k_aast hx hb hK hP hD hS 1 rfl (hw.any hS) (by unfold vp_in; decide) dX13_init_161 (fun H locs f hP hD hS => ?_)
  clear hw
  refine lv_dup hx hb dX13_init_162 rfl ?_
  refine lv_bipush (v := 23) hx hb dX13_init_163 (by decide) ?_
  obtain ⟨w, hw⟩ := hstr 23 _ rfl
  refine va_ldcS hx hb hown hw.1 dX13_init_165 ?_
  refine k_aast hx hb hK hP hD hS 1 rfl (hw.any hS) (by unfold vp_in; decide) dX13_init_167 (fun H locs f hP hD hS => ?_)
  clear hw
  refine lv_dup hx hb dX13_init_168 rfl ?_
  refine lv_bipush (v := 24) hx hb dX13_init_169 (by decide) ?_
  obtain ⟨w, hw⟩ := hstr 24 _ rfl
  refine va_ldcS hx hb hown hw.1 dX13_init_171 ?_
  refine k_aast hx hb hK hP hD hS 1 rfl (hw.any hS) (by unfold vp_in; decide) dX13_init_173 (fun H locs f hP hD hS => ?_)
  clear hw
  refine lv_dup hx hb dX13_init_174 rfl ?_
  refine lv_bipush (v := 25) hx hb dX13_init_175 (by decide) ?_
  obtain ⟨w, hw⟩ := hstr 25 _ rfl
  refine va_ldcS hx hb hown hw.1 dX13_init_177 ?_
  refine k_aast hx hb hK hP hD hS 1 rfl (hw.any hS) (by unfold vp_in; decide) dX13_init_179 (fun H locs f hP hD hS => ?_)
  clear hw
  refine lv_dup hx hb dX13_init_180 rfl ?_
  refine lv_bipush (v := 26) hx hb dX13_init_181 (by decide) ?_
  obtain ⟨w, hw⟩ := hstr 26 _ rfl
  refine va_ldcS hx hb hown hw.1 dX13_init_183 ?_
  refine k_aast hx hb hK hP hD hS 1 rfl (hw.any hS) (by unfold vp_in; decide) dX13_init_185 (fun H locs f hP hD hS => ?_)
  clear hw
  refine lv_dup hx hb dX13_init_186 rfl ?_
  refine lv_bipush (v := 27) hx hb dX13_init_187 (by decide) ?_
  obtain ⟨w, hw⟩ := hstr 27 _ rfl
  refine va_ldcS hx hb hown hw.1 dX13_init_189 ?_
  refine k_aast hx hb hK hP hD hS 1 rfl (hw.any hS) (by unfold vp_in; decide) dX13_init_191 (fun H locs f hP hD hS => ?_)
  clear hw
  refine lv_dup hx hb dX13_init_192 rfl ?_
  refine lv_bipush (v := 28) hx hb dX13_init_193 (by decide) ?_
  obtain ⟨w, hw⟩ := hstr 28 _ rfl
  refine va_ldcS hx hb hown hw.1 dX13_init_195 ?_
  refine k_aast hx hb hK hP hD hS 1 rfl (hw.any hS) (by unfold vp_in; decide) dX13_init_197 (fun H locs f hP hD hS => ?_)
  clear hw
  refine lv_dup hx hb dX13_init_198 rfl ?_
  refine lv_bipush (v := 29) hx hb dX13_init_199 (by decide) ?_
  obtain ⟨w, hw⟩ := hstr 29 _ rfl
  refine va_ldcS hx hb hown hw.1 dX13_init_201 ?_
  refine k_aast hx hb hK hP hD hS 1 rfl (hw.any hS) (by unfold vp_in; decide) dX13_init_203 (fun H locs f hP hD hS => ?_)
  clear hw
  refine lv_dup hx hb dX13_init_204 rfl ?_
  refine lv_bipush (v := 30) hx hb dX13_init_205 (by decide) ?_
  obtain ⟨w, hw⟩ := hstr 30 _ rfl
  refine va_ldcS hx hb hown hw.1 dX13_init_207 ?_
  refine k_aast hx hb hK hP hD hS 1 rfl (hw.any hS) (by unfold vp_in; decide) dX13_init_209 (fun H locs f hP hD hS => ?_)
  clear hw
  refine lv_dup hx hb dX13_init_210 rfl ?_
  refine lv_bipush (v := 31) hx hb dX13_init_211 (by decide) ?_
  obtain ⟨w, hw⟩ := hstr 31 _ rfl
  refine va_ldcS hx hb hown hw.1 dX13_init_213 ?_
  refine k_aast hx hb hK hP hD hS 1 rfl (hw.any hS) (by unfold vp_in; decide) dX13_init_215 (fun H locs f hP hD hS => ?_)
  clear hw
  refine lv_dup hx hb dX13_init_216 rfl ?_
  refine lv_bipush (v := 32) hx hb dX13_init_217 (by decide) ?_
  obtain ⟨w, hw⟩ := hstr 32 _ rfl
  refine va_ldcS hx hb hown hw.1 dX13_init_219 ?_
  refine k_aast hx hb hK hP hD hS 1 rfl (hw.any hS) (by unfold vp_in; decide) dX13_init_221 (fun H locs f hP hD hS => ?_)
  clear hw
  refine lv_dup hx hb dX13_init_222 rfl ?_
  refine lv_bipush (v := 33) hx hb dX13_init_223 (by decide) ?_
  obtain ⟨w, hw⟩ := hstr 33 _ rfl
  refine va_ldcS hx hb hown hw.1 dX13_init_225 ?_
  refine k_aast hx hb hK hP hD hS 1 rfl (hw.any hS) (by unfold vp_in; decide) dX13_init_227 (fun H locs f hP hD hS => ?_)
  clear hw
  refine lv_dup hx hb dX13_init_228 rfl ?_
  refine lv_bipush (v := 34) hx hb dX13_init_229 (by decide) ?_
  obtain ⟨w, hw⟩ := hstr 34 _ rfl
  refine va_ldcS hx hb hown hw.1 dX13_init_231 ?_
  refine k_aast hx hb hK hP hD hS 1 rfl (hw.any hS) (by unfold vp_in; decide) dX13_init_233 (fun H locs f hP hD hS => ?_)
  clear hw
  refine lv_dup hx hb dX13_init_234 rfl ?_
  refine lv_bipush (v := 35) hx hb dX13_init_235 (by decide) ?_
  obtain ⟨w, hw⟩ := hstr 35 _ rfl
  refine va_ldcS hx hb hown hw.1 dX13_init_237 ?_
  refine k_aast hx hb hK hP hD hS 1 rfl (hw.any hS) (by unfold vp_in; decide) dX13_init_239 (fun H locs f hP hD hS => ?_)
  clear hw
  have hP := hP.sub (ws' := [(h0, .inr (13, fs)), (qh, .inr (12, fsH)), (q2, .inl (c2, 6000, .inl (fun _ => 0)))]) [1, 2, 3] rfl
  have hD := hD.sub (ws' := [(h0, .inr (13, fs)), (qh, .inr (12, fsH)), (q2, .inl (c2, 6000, .inl (fun _ => 0)))]) [1, 2, 3] (by decide) rfl
  have hK := hK.sub (tys' := [(c2, .int)]) [0] rfl
  refine k_putF ((2, .ref q2) :: (0, .ref qh) :: [(3, .int 0), (110, .int 0), (123, .int 0)]) hts iX13 tyX13 tyX13_ok nmX13 hx hb hown hin2 hK rfl hJ hP hD hS 4 (by decide) (by decide) rfl (hts _ (bP 10 rfl)) rfl (ty := .array (.object "java/lang/String")) (by decide +kernel) (v := .ref qs) rfl rfl dX13_init_240 (fun f h => kJ_set h _ _ rfl) (fun H locs fs hJ hP hD hS => ?_)
  refine lv_aload_n hx hb dX13_init_243 rfl (lv_at hl 0 rfl) ?_
  refine lv_bipush (v := 28) hx hb dX13_init_244 (by decide) ?_
  refine va_newq (C := RJ0) (N' := 28) hx hb hown (hts _ (bP 9 rfl)) hao1 hK hP hD hS hA (by decide) (by decide) (by decide) (Nat.le_of_ble_eq_true rfl) (Nat.le_of_ble_eq_true rfl) dX13_init_246 (fun qs cs H hK hP hD hS => ?_)
  have hP := hP.sub (ws' := [(qs, .inl (cs, 28, .inr (.inr (.inr (.inr (fun _ => none)))))), (h0, .inr (13, fs)), (qh, .inr (12, fsH)), (q2, .inl (c2, 6000, .inl (fun _ => 0)))]) [3, 0, 1, 2] rfl
  have hD := hD.sub (ws' := [(qs, .inl (cs, 28, .inr (.inr (.inr (.inr (fun _ => none)))))), (h0, .inr (13, fs)), (qh, .inr (12, fsH)), (q2, .inl (c2, 6000, .inl (fun _ => 0)))]) [3, 0, 1, 2] (by decide) rfl
  refine lv_dup hx hb dX13_init_249 rfl ?_
  refine lv_iconst (v := 0) hx hb dX13_init_250 (by decide) ?_
  obtain ⟨w, hw⟩ := hstr 36 _ rfl
  refine va_ldcS hx hb hown hw.1 dX13_init_251 ?_
  refine k_aast hx hb hK hP hD hS 1 rfl (hw.any hS) (by unfold vp_in; decide) dX13_init_253 (fun H locs f hP hD hS => ?_)
  clear hw
  refine lv_dup hx hb dX13_init_254 rfl ?_
  refine lv_iconst (v := 1) hx hb dX13_init_255 (by decide) ?_
  obtain ⟨w, hw⟩ := hstr 37 _ rfl
  refine va_ldcS hx hb hown hw.1 dX13_init_256 ?_
  refine k_aast hx hb hK hP hD hS 1 rfl (hw.any hS) (by unfold vp_in; decide) dX13_init_258 (fun H locs f hP hD hS => ?_)
  clear hw
  refine lv_dup hx hb dX13_init_259 rfl ?_
  refine lv_iconst (v := 2) hx hb dX13_init_260 (by decide) ?_
  obtain ⟨w, hw⟩ := hstr 38 _ rfl
  refine va_ldcS hx hb hown hw.1 dX13_init_261 ?_
  refine k_aast hx hb hK hP hD hS 1 rfl (hw.any hS) (by unfold vp_in; decide) dX13_init_263 (fun H locs f hP hD hS => ?_)
  clear hw
  refine lv_dup hx hb dX13_init_264 rfl ?_
  refine lv_iconst (v := 3) hx hb dX13_init_265 (by decide) ?_
  obtain ⟨w, hw⟩ := hstr 39 _ rfl
  refine va_ldcS hx hb hown hw.1 dX13_init_266 ?_
  refine k_aast hx hb hK hP hD hS 1 rfl (hw.any hS) (by unfold vp_in; decide) dX13_init_268 (fun H locs f hP hD hS => ?_)
  clear hw
  refine lv_dup hx hb dX13_init_269 rfl ?_
  refine lv_iconst (v := 4) hx hb dX13_init_270 (by decide) ?_
  obtain ⟨w, hw⟩ := hstr 40 _ rfl
  refine va_ldcS hx hb hown hw.1 dX13_init_271 ?_
  refine k_aast hx hb hK hP hD hS 1 rfl (hw.any hS) (by unfold vp_in; decide) dX13_init_273 (fun H locs f hP hD hS => ?_)
  clear hw
  refine lv_dup hx hb dX13_init_274 rfl ?_
  refine lv_iconst (v := 5) hx hb dX13_init_275 (by decide) ?_
  obtain ⟨w, hw⟩ := hstr 41 _ rfl
  refine va_ldcS hx hb hown hw.1 dX13_init_276 ?_
  refine k_aast hx hb hK hP hD hS 1 rfl (hw.any hS) (by unfold vp_in; decide) dX13_init_278 (fun H locs f hP hD hS => ?_)
  clear hw
  refine lv_dup hx hb dX13_init_279 rfl ?_
  refine lv_bipush (v := 6) hx hb dX13_init_280 (by decide) ?_
  obtain ⟨w, hw⟩ := hstr 42 _ rfl
  refine va_ldcS hx hb hown hw.1 dX13_init_282 ?_
  refine k_aast hx hb hK hP hD hS 1 rfl (hw.any hS) (by unfold vp_in; decide) dX13_init_284 (fun H locs f hP hD hS => ?_)
  clear hw
  refine lv_dup hx hb dX13_init_285 rfl ?_
  refine lv_bipush (v := 7) hx hb dX13_init_286 (by decide) ?_
  obtain ⟨w, hw⟩ := hstr 43 _ rfl
  refine va_ldcS hx hb hown hw.1 dX13_init_288 ?_
  refine k_aast hx hb hK hP hD hS 1 rfl (hw.any hS) (by unfold vp_in; decide) dX13_init_290 (fun H locs f hP hD hS => ?_)
  clear hw
  refine lv_dup hx hb dX13_init_291 rfl ?_
  refine lv_bipush (v := 8) hx hb dX13_init_292 (by decide) ?_
  obtain ⟨w, hw⟩ := hstr 44 _ rfl
  refine va_ldcS hx hb hown hw.1 dX13_init_294 ?_
  refine k_aast hx hb hK hP hD hS 1 rfl (hw.any hS) (by unfold vp_in; decide) dX13_init_296 (fun H locs f hP hD hS => ?_)
  clear hw
  refine lv_dup hx hb dX13_init_297 rfl ?_
  refine lv_bipush (v := 9) hx hb dX13_init_298 (by decide) ?_
  obtain ⟨w, hw⟩ := hstr 45 _ rfl
  refine va_ldcS hx hb hown hw.1 dX13_init_300 ?_
  refine k_aast hx hb hK hP hD hS 1 rfl (hw.any hS) (by unfold vp_in; decide) dX13_init_302 (fun H locs f hP hD hS => ?_)
  clear hw
  refine lv_dup hx hb dX13_init_303 rfl ?_
  refine lv_bipush (v := 10) hx hb dX13_init_304 (by decide) ?_
  obtain ⟨w, hw⟩ := hstr 46 _ rfl
  refine va_ldcS hx hb hown hw.1 dX13_init_306 ?_
  refine k_aast hx hb hK hP hD hS 1 rfl (hw.any hS) (by unfold vp_in; decide) dX13_init_308 (fun H locs f hP hD hS => ?_)
  clear hw
  refine lv_dup hx hb dX13_init_309 rfl ?_
  refine lv_bipush (v := 11) hx hb dX13_init_310 (by decide) ?_
  obtain ⟨w, hw⟩ := hstr 47 _ rfl
  refine va_ldcS hx hb hown hw.1 dX13_init_312 ?_
  refine k_aast hx hb hK hP hD hS 1 rfl (hw.any hS) (by unfold vp_in; decide) dX13_init_314 (fun H locs f hP hD hS => ?_)
  clear hw
  refine lv_dup hx hb dX13_init_315 rfl ?_
  refine lv_bipush (v := 12) hx hb dX13_init_316 (by decide) ?_
  obtain ⟨w, hw⟩ := hstr 48 _ rfl
  refine va_ldcS hx hb hown hw.1 dX13_init_318 ?_
  refine k_aast hx hb hK hP hD hS 1 rfl (hw.any hS) (by unfold vp_in; decide) dX13_init_320 (fun H locs f hP hD hS => ?_)
  clear hw
  refine lv_dup hx hb dX13_init_321 rfl ?_
  refine lv_bipush (v := 13) hx hb dX13_init_322 (by decide) ?_
  obtain ⟨w, hw⟩ := hstr 49 _ rfl
  refine va_ldcS hx hb hown hw.1 dX13_init_324 ?_
  refine k_aast hx hb hK hP hD hS 1 rfl (hw.any hS) (by unfold vp_in; decide) dX13_init_326 (fun H locs f hP hD hS => ?_)
  clear hw
  refine lv_dup hx hb dX13_init_327 rfl ?_
  refine lv_bipush (v := 14) hx hb dX13_init_328 (by decide) ?_
  obtain ⟨w, hw⟩ := hstr 50 _ rfl
  refine va_ldcS hx hb hown hw.1 dX13_init_330 ?_
  refine k_aast hx hb hK hP hD hS 1 rfl (hw.any hS) (by unfold vp_in; decide) dX13_init_332 (fun H locs f hP hD hS => ?_)
  clear hw
  refine lv_dup hx hb dX13_init_333 rfl ?_
  refine lv_bipush (v := 15) hx hb dX13_init_334 (by decide) ?_
  obtain ⟨w, hw⟩ := hstr 51 _ rfl
  refine va_ldcS hx hb hown hw.1 dX13_init_336 ?_
  refine k_aast hx hb hK hP hD hS 1 rfl (hw.any hS) (by unfold vp_in; decide) dX13_init_338 (fun H locs f hP hD hS => ?_)
  clear hw
  refine lv_dup hx hb dX13_init_339 rfl ?_
  refine lv_bipush (v := 16) hx hb dX13_init_340 (by decide) ?_
  obtain ⟨w, hw⟩ := hstr 52 _ rfl
  refine va_ldcS hx hb hown hw.1 dX13_init_342 ?_
  refine k_aast hx hb hK hP hD hS 1 rfl (hw.any hS) (by unfold vp_in; decide) dX13_init_344 (fun H locs f hP hD hS => ?_)
  clear hw
  refine lv_dup hx hb dX13_init_345 rfl ?_
  refine lv_bipush (v := 17) hx hb dX13_init_346 (by decide) ?_
  obtain ⟨w, hw⟩ := hstr 53 _ rfl
  refine va_ldcS hx hb hown hw.1 dX13_init_348 ?_
  refine k_aast hx hb hK hP hD hS 1 rfl (hw.any hS) (by unfold vp_in; decide) dX13_init_350 (fun H locs f hP hD hS => ?_)
  clear hw
  refine lv_dup hx hb dX13_init_351 rfl ?_
  refine lv_bipush (v := 18) hx hb dX13_init_352 (by decide) ?_
  obtain ⟨w, hw⟩ := hstr 54 _ rfl
  refine va_ldcS hx hb hown hw.1 dX13_init_354 ?_
  refine k_aast hx hb hK hP hD hS 1 rfl (hw.any hS) (by unfold vp_in; decide) dX13_init_356 (fun H locs f hP hD hS => ?_)
  clear hw
  refine lv_dup hx hb dX13_init_357 rfl ?_
  refine lv_bipush (v := 19) hx hb dX13_init_358 (by decide) ?_
  obtain ⟨w, hw⟩ := hstr 55 _ rfl
  refine va_ldcS hx hb hown hw.1 dX13_init_360 ?_
  refine k_aast hx hb hK hP hD hS 1 rfl (hw.any hS) (by unfold vp_in; decide) dX13_init_362 (fun H locs f hP hD hS => ?_)
  clear hw
  refine lv_dup hx hb dX13_init_363 rfl ?_
  refine lv_bipush (v := 20) hx hb dX13_init_364 (by decide) ?_
  obtain ⟨w, hw⟩ := hstr 56 _ rfl
  refine va_ldcS hx hb hown hw.1 dX13_init_366 ?_
  refine k_aast hx hb hK hP hD hS 1 rfl (hw.any hS) (by unfold vp_in; decide) dX13_init_368 (fun H locs f hP hD hS => ?_)
  clear hw
  refine lv_dup hx hb dX13_init_369 rfl ?_
  refine lv_bipush (v := 21) hx hb dX13_init_370 (by decide) ?_
  obtain ⟨w, hw⟩ := hstr 57 _ rfl
  refine va_ldcS hx hb hown hw.1 dX13_init_372 ?_
  refine k_aast hx hb hK hP hD hS 1 rfl (hw.any hS) (by unfold vp_in; decide) dX13_init_374 (fun H locs f hP hD hS => ?_)
  clear hw
  refine lv_dup hx hb dX13_init_375 rfl ?_
  refine lv_bipush (v := 22) hx hb dX13_init_376 (by decide) ?_
  obtain ⟨w, hw⟩ := hstr 58 _ rfl
  refine va_ldcS hx hb hown hw.1 dX13_init_378 ?_
  refine k_aast hx hb hK hP hD hS 1 rfl (hw.any hS) (by unfold vp_in; decide) dX13_init_380 (fun H locs f hP hD hS => ?_)
  clear hw
  refine lv_dup hx hb dX13_init_381 rfl ?_
  refine lv_bipush (v := 23) hx hb dX13_init_382 (by decide) ?_
  obtain ⟨w, hw⟩ := hstr 59 _ rfl
  refine va_ldcS hx hb hown hw.1 dX13_init_384 ?_
  refine k_aast hx hb hK hP hD hS 1 rfl (hw.any hS) (by unfold vp_in; decide) dX13_init_386 (fun H locs f hP hD hS => ?_)
  clear hw
  refine lv_dup hx hb dX13_init_387 rfl ?_
  refine lv_bipush (v := 24) hx hb dX13_init_388 (by decide) ?_
  obtain ⟨w, hw⟩ := hstr 60 _ rfl
  refine va_ldcS hx hb hown hw.1 dX13_init_390 ?_
  refine k_aast hx hb hK hP hD hS 1 rfl (hw.any hS) (by unfold vp_in; decide) dX13_init_392 (fun H locs f hP hD hS => ?_)
  clear hw
  refine lv_dup hx hb dX13_init_393 rfl ?_
  refine lv_bipush (v := 25) hx hb dX13_init_394 (by decide) ?_
  obtain ⟨w, hw⟩ := hstr 61 _ rfl
  refine va_ldcS hx hb hown hw.1 dX13_init_396 ?_
  refine k_aast hx hb hK hP hD hS 1 rfl (hw.any hS) (by unfold vp_in; decide) dX13_init_398 (fun H locs f hP hD hS => ?_)
  clear hw
  refine lv_dup hx hb dX13_init_399 rfl ?_
  refine lv_bipush (v := 26) hx hb dX13_init_400 (by decide) ?_
  obtain ⟨w, hw⟩ := hstr 62 _ rfl
  refine va_ldcS hx hb hown hw.1 dX13_init_402 ?_
  refine k_aast hx hb hK hP hD hS 1 rfl (hw.any hS) (by unfold vp_in; decide) dX13_init_404 (fun H locs f hP hD hS => ?_)
  clear hw
  refine lv_dup hx hb dX13_init_405 rfl ?_
  refine lv_bipush (v := 27) hx hb dX13_init_406 (by decide) ?_
  obtain ⟨w, hw⟩ := hstr 63 _ rfl
  refine va_ldcS hx hb hown hw.1 dX13_init_408 ?_
  refine k_aast hx hb hK hP hD hS 1 rfl (hw.any hS) (by unfold vp_in; decide) dX13_init_410 (fun H locs f hP hD hS => ?_)
  clear hw
  have hP := hP.sub (ws' := [(h0, .inr (13, fs)), (qh, .inr (12, fsH)), (q2, .inl (c2, 6000, .inl (fun _ => 0)))]) [1, 2, 3] rfl
  have hD := hD.sub (ws' := [(h0, .inr (13, fs)), (qh, .inr (12, fsH)), (q2, .inl (c2, 6000, .inl (fun _ => 0)))]) [1, 2, 3] (by decide) rfl
  have hK := hK.sub (tys' := [(c2, .int)]) [0] rfl
  refine k_putF ((2, .ref q2) :: (0, .ref qh) :: [(3, .int 0), (110, .int 0), (123, .int 0)]) hts iX13 tyX13 tyX13_ok nmX13 hx hb hown hin2 hK rfl hJ hP hD hS 5 (by decide) (by decide) rfl (hts _ (bP 11 rfl)) rfl (ty := .array (.object "java/lang/String")) (by decide +kernel) (v := .ref qs) rfl rfl dX13_init_411 (fun f h => kJ_set h _ _ rfl) (fun H locs fs hJ hP hD hS => ?_)
  refine lv_aload_n hx hb dX13_init_414 rfl (lv_at hl 0 rfl) ?_
  refine lv_sipush (v := 12002) hx hb dX13_init_415 (by decide) ?_
  refine va_newa (ty := .int) (a0 := (12002, .inl (fun _ => 0))) hx hb (hts _ (bP 7 rfl)) rfl hK hP hD hS hA (fun _ => rfl) (by decide) (by decide) (by decide) (Nat.le_of_ble_eq_true rfl) (Nat.le_of_ble_eq_true rfl) dX13_init_418 (fun q7 c7 H hK hP hD hS => ?_)
  have hP : va_P (dC, dI) vwCl [(h0, .inr (13, fs)), (qh, .inr (12, fsH)), (q2, .inl (c2, 6000, .inl (fun _ => 0))), (q7, .inl (c7, 12002, .inl (fun _ => 0)))] H := hP
  have hD : va_D A [(h0, .inr (13, fs)), (qh, .inr (12, fsH)), (q2, .inl (c2, 6000, .inl (fun _ => 0))), (q7, .inl (c7, 12002, .inl (fun _ => 0)))] := hD
  have hK : va_K (dC, dI) vwCl [(c2, .int), (c7, .int)] s := hK
  refine k_putF ((7, .ref q7) :: (2, .ref q2) :: (0, .ref qh) :: [(3, .int 0), (110, .int 0), (123, .int 0)]) hts iX13 tyX13 tyX13_ok nmX13 hx hb hown hin2 hK rfl hJ hP hD hS 7 (by decide) (by decide) rfl (hts _ (bP 12 rfl)) rfl (ty := .array .int) (by decide +kernel) (v := .ref q7) rfl rfl dX13_init_420 (fun f h => kJ_add h _ _ rfl (by decide)) (fun H locs fs hJ hP hD hS => ?_)
  refine lv_aload_n hx hb dX13_init_423 rfl (lv_at hl 0 rfl) ?_
  refine lv_sipush (v := 12002) hx hb dX13_init_424 (by decide) ?_
  refine va_newa (ty := .int) (a0 := (12002, .inl (fun _ => 0))) hx hb (hts _ (bP 7 rfl)) rfl hK hP hD hS hA (fun _ => rfl) (by decide) (by decide) (by decide) (Nat.le_of_ble_eq_true rfl) (Nat.le_of_ble_eq_true rfl) dX13_init_427 (fun q8 c8 H hK hP hD hS => ?_)
  have hP : va_P (dC, dI) vwCl [(h0, .inr (13, fs)), (qh, .inr (12, fsH)), (q2, .inl (c2, 6000, .inl (fun _ => 0))), (q7, .inl (c7, 12002, .inl (fun _ => 0))), (q8, .inl (c8, 12002, .inl (fun _ => 0)))] H := hP
  have hD : va_D A [(h0, .inr (13, fs)), (qh, .inr (12, fsH)), (q2, .inl (c2, 6000, .inl (fun _ => 0))), (q7, .inl (c7, 12002, .inl (fun _ => 0))), (q8, .inl (c8, 12002, .inl (fun _ => 0)))] := hD
  have hK : va_K (dC, dI) vwCl [(c2, .int), (c7, .int), (c8, .int)] s := hK
  refine k_putF ((8, .ref q8) :: (7, .ref q7) :: (2, .ref q2) :: (0, .ref qh) :: [(3, .int 0), (110, .int 0), (123, .int 0)]) hts iX13 tyX13 tyX13_ok nmX13 hx hb hown hin2 hK rfl hJ hP hD hS 8 (by decide) (by decide) rfl (hts _ (bP 13 rfl)) rfl (ty := .array .int) (by decide +kernel) (v := .ref q8) rfl rfl dX13_init_429 (fun f h => kJ_add h _ _ rfl (by decide)) (fun H locs fs hJ hP hD hS => ?_)
  refine lv_aload_n hx hb dX13_init_432 rfl (lv_at hl 0 rfl) ?_
  refine lv_sipush (v := 12002) hx hb dX13_init_433 (by decide) ?_
  refine va_newa (ty := .int) (a0 := (12002, .inl (fun _ => 0))) hx hb (hts _ (bP 7 rfl)) rfl hK hP hD hS hA (fun _ => rfl) (by decide) (by decide) (by decide) (Nat.le_of_ble_eq_true rfl) (Nat.le_of_ble_eq_true rfl) dX13_init_436 (fun q9 c9 H hK hP hD hS => ?_)
  have hP : va_P (dC, dI) vwCl [(h0, .inr (13, fs)), (qh, .inr (12, fsH)), (q2, .inl (c2, 6000, .inl (fun _ => 0))), (q7, .inl (c7, 12002, .inl (fun _ => 0))), (q8, .inl (c8, 12002, .inl (fun _ => 0))), (q9, .inl (c9, 12002, .inl (fun _ => 0)))] H := hP
  have hD : va_D A [(h0, .inr (13, fs)), (qh, .inr (12, fsH)), (q2, .inl (c2, 6000, .inl (fun _ => 0))), (q7, .inl (c7, 12002, .inl (fun _ => 0))), (q8, .inl (c8, 12002, .inl (fun _ => 0))), (q9, .inl (c9, 12002, .inl (fun _ => 0)))] := hD
  have hK : va_K (dC, dI) vwCl [(c2, .int), (c7, .int), (c8, .int), (c9, .int)] s := hK
  refine k_putF ((9, .ref q9) :: (8, .ref q8) :: (7, .ref q7) :: (2, .ref q2) :: (0, .ref qh) :: [(3, .int 0), (110, .int 0), (123, .int 0)]) hts iX13 tyX13 tyX13_ok nmX13 hx hb hown hin2 hK rfl hJ hP hD hS 9 (by decide) (by decide) rfl (hts _ (bP 14 rfl)) rfl (ty := .array .int) (by decide +kernel) (v := .ref q9) rfl rfl dX13_init_438 (fun f h => kJ_add h _ _ rfl (by decide)) (fun H locs fs hJ hP hD hS => ?_)
  refine lv_aload_n hx hb dX13_init_441 rfl (lv_at hl 0 rfl) ?_
  refine lv_sipush (v := 12002) hx hb dX13_init_442 (by decide) ?_
  refine va_newa (ty := .int) (a0 := (12002, .inl (fun _ => 0))) hx hb (hts _ (bP 7 rfl)) rfl hK hP hD hS hA (fun _ => rfl) (by decide) (by decide) (by decide) (Nat.le_of_ble_eq_true rfl) (Nat.le_of_ble_eq_true rfl) dX13_init_445 (fun q10 c10 H hK hP hD hS => ?_)
  have hP : va_P (dC, dI) vwCl [(h0, .inr (13, fs)), (qh, .inr (12, fsH)), (q2, .inl (c2, 6000, .inl (fun _ => 0))), (q7, .inl (c7, 12002, .inl (fun _ => 0))), (q8, .inl (c8, 12002, .inl (fun _ => 0))), (q9, .inl (c9, 12002, .inl (fun _ => 0))), (q10, .inl (c10, 12002, .inl (fun _ => 0)))] H := hP
  have hD : va_D A [(h0, .inr (13, fs)), (qh, .inr (12, fsH)), (q2, .inl (c2, 6000, .inl (fun _ => 0))), (q7, .inl (c7, 12002, .inl (fun _ => 0))), (q8, .inl (c8, 12002, .inl (fun _ => 0))), (q9, .inl (c9, 12002, .inl (fun _ => 0))), (q10, .inl (c10, 12002, .inl (fun _ => 0)))] := hD
  have hK : va_K (dC, dI) vwCl [(c2, .int), (c7, .int), (c8, .int), (c9, .int), (c10, .int)] s := hK
  refine k_putF ((10, .ref q10) :: (9, .ref q9) :: (8, .ref q8) :: (7, .ref q7) :: (2, .ref q2) :: (0, .ref qh) :: [(3, .int 0), (110, .int 0), (123, .int 0)]) hts iX13 tyX13 tyX13_ok nmX13 hx hb hown hin2 hK rfl hJ hP hD hS 10 (by decide) (by decide) rfl (hts _ (bP 15 rfl)) rfl (ty := .array .int) (by decide +kernel) (v := .ref q10) rfl rfl dX13_init_447 (fun f h => kJ_add h _ _ rfl (by decide)) (fun H locs fs hJ hP hD hS => ?_)
  have hJ : kJ 180 (mL qh q2 q7 q8 q9 q10) fs := kJ_sub hJ (by intro x hx; simp only [mL, List.mem_cons, List.not_mem_nil, or_false] at hx ⊢; rcases hx with h | h | h | h | h | h | h | h | h <;> simp [h])
  refine W.widen (k := 8) (n := 54078) (Nat.le_of_ble_eq_true rfl) (Nat.le_of_ble_eq_true rfl) ?_
  refine mi_1 hx hb hts hown hin2 (aO.use hao2) rfl hl hK hJ hP hD hS (Nat.le_of_ble_eq_true rfl) (Nat.le_of_ble_eq_true rfl) (fun H locs fs hJ hP hD hS => ?_)
  refine mi_2 hx hb hts hown hin2 (aO.use hao2) rfl hl hK hJ hP hD hS (Nat.le_of_ble_eq_true rfl) (Nat.le_of_ble_eq_true rfl) (fun H locs fs hJ hP hD hS => ?_)
  refine mi_3 hx hb hts hown hin2 (aO.use hao2) rfl hl hK hJ hP hD hS (Nat.le_of_ble_eq_true rfl) (Nat.le_of_ble_eq_true rfl) (fun H locs fs hJ hP hD hS => ?_)
  refine mi_4 hx hb hts hown hin2 (aO.use hao2) rfl hl hK hJ hP hD hS (Nat.le_of_ble_eq_true rfl) (Nat.le_of_ble_eq_true rfl) (fun H locs fs hJ hP hD hS => ?_)
  refine mi_5 hx hb hts hown hin2 (aO.use hao2) rfl hl hK hJ hP hD hS (Nat.le_of_ble_eq_true rfl) (Nat.le_of_ble_eq_true rfl) (fun H locs fs hJ hP hD hS => ?_)
  refine mi_6 hx hb hts hown hin2 (aO.use hao2) rfl hl hK hJ hP hD hS (Nat.le_of_ble_eq_true rfl) (Nat.le_of_ble_eq_true rfl) (fun H locs fs hJ hP hD hS => ?_)
  refine W.widen (k := 100) (n := 848008) (Nat.le_of_ble_eq_true rfl) (Nat.le_of_ble_eq_true rfl) ?_
  exact W.vret hx hb hr (fun t2 ht2 hW2 => ⟨⟨(fs, fsH, qh, q2, q7, q8, q9, q10, c2, c7, c8, c9, c10), rfl, ⟨hJ, hJH⟩, by rw [ht2]; exact hP, va_K.moved hW2.alike hK, hD⟩, hS.F ht2⟩) hS.2.2 dX13_init_1255

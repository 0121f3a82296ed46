/-! The class: the words are learned -/
theorem dX7_forgetNames_0 : decode cX7_forgetNames 0 = .ok (.aload_n 0, 1) := by decide +kernel
theorem dX7_forgetNames_1 : decode cX7_forgetNames 1 = .ok (.getfield 40, 3) := by decide +kernel
theorem dX7_forgetNames_4 : decode cX7_forgetNames 4 = .ok (.iconst (-1), 1) := by decide +kernel
theorem dX7_forgetNames_5 : decode cX7_forgetNames 5 = .ok (.invokestatic 135, 3) := by decide +kernel
theorem dX7_forgetNames_8 : decode cX7_forgetNames 8 = .ok (.aload_n 0, 1) := by decide +kernel
theorem dX7_forgetNames_9 : decode cX7_forgetNames 9 = .ok (.iconst 0, 1) := by decide +kernel
theorem dX7_forgetNames_10 : decode cX7_forgetNames 10 = .ok (.putfield 121, 3) := by decide +kernel
theorem dX7_forgetNames_13 : decode cX7_forgetNames 13 = .ok (.aload_n 0, 1) := by decide +kernel
theorem dX7_forgetNames_14 : decode cX7_forgetNames 14 = .ok (.getfield 34, 3) := by decide +kernel
theorem dX7_forgetNames_17 : decode cX7_forgetNames 17 = .ok (.iconst 0, 1) := by decide +kernel
theorem dX7_forgetNames_18 : decode cX7_forgetNames 18 = .ok (.iconst 0, 1) := by decide +kernel
theorem dX7_forgetNames_19 : decode cX7_forgetNames 19 = .ok (.iastore, 1) := by decide +kernel
theorem dX7_forgetNames_20 : decode cX7_forgetNames 20 = .ok (.aload_n 0, 1) := by decide +kernel
theorem dX7_forgetNames_21 : decode cX7_forgetNames 21 = .ok (.ldc 141, 2) := by decide +kernel
theorem dX7_forgetNames_23 : decode cX7_forgetNames 23 = .ok (.invokevirtual 143, 3) := by decide +kernel
theorem dX7_forgetNames_26 : decode cX7_forgetNames 26 = .ok (.aload_n 0, 1) := by decide +kernel
theorem dX7_forgetNames_27 : decode cX7_forgetNames 27 = .ok (.ldc 147, 2) := by decide +kernel
theorem dX7_forgetNames_29 : decode cX7_forgetNames 29 = .ok (.invokevirtual 143, 3) := by decide +kernel
theorem dX7_forgetNames_32 : decode cX7_forgetNames 32 = .ok (.aload_n 0, 1) := by decide +kernel
theorem dX7_forgetNames_33 : decode cX7_forgetNames 33 = .ok (.ldc 149, 2) := by decide +kernel
theorem dX7_forgetNames_35 : decode cX7_forgetNames 35 = .ok (.invokevirtual 143, 3) := by decide +kernel
theorem dX7_forgetNames_38 : decode cX7_forgetNames 38 = .ok (.return_, 1) := by decide +kernel
theorem dX7_learn_0 : decode cX7_learn 0 = .ok (.iconst 0, 1) := by decide +kernel
theorem dX7_learn_1 : decode cX7_learn 1 = .ok (.istore_n 2, 1) := by decide +kernel
theorem dX7_learn_2 : decode cX7_learn 2 = .ok (.iconst 0, 1) := by decide +kernel
theorem dX7_learn_3 : decode cX7_learn 3 = .ok (.istore_n 3, 1) := by decide +kernel
theorem dX7_learn_4 : decode cX7_learn 4 = .ok (.iload_n 3, 1) := by decide +kernel
theorem dX7_learn_5 : decode cX7_learn 5 = .ok (.aload_n 1, 1) := by decide +kernel
theorem dX7_learn_6 : decode cX7_learn 6 = .ok (.invokevirtual 151, 3) := by decide +kernel
theorem dX7_learn_9 : decode cX7_learn 9 = .ok (.if_icmp .ge 54, 3) := by decide +kernel
theorem dX7_learn_12 : decode cX7_learn 12 = .ok (.aload_n 1, 1) := by decide +kernel
theorem dX7_learn_13 : decode cX7_learn 13 = .ok (.iload_n 3, 1) := by decide +kernel
theorem dX7_learn_14 : decode cX7_learn 14 = .ok (.invokevirtual 155, 3) := by decide +kernel
theorem dX7_learn_17 : decode cX7_learn 17 = .ok (.istore 4, 2) := by decide +kernel
theorem dX7_learn_19 : decode cX7_learn 19 = .ok (.iload 4, 2) := by decide +kernel
theorem dX7_learn_21 : decode cX7_learn 21 = .ok (.bipush 32, 2) := by decide +kernel
theorem dX7_learn_23 : decode cX7_learn 23 = .ok (.if_icmp .ne 14, 3) := by decide +kernel
theorem dX7_learn_26 : decode cX7_learn 26 = .ok (.aload_n 0, 1) := by decide +kernel
theorem dX7_learn_27 : decode cX7_learn 27 = .ok (.iload_n 2, 1) := by decide +kernel
theorem dX7_learn_28 : decode cX7_learn 28 = .ok (.invokevirtual 128, 3) := by decide +kernel
theorem dX7_learn_31 : decode cX7_learn 31 = .ok (.pop, 1) := by decide +kernel
theorem dX7_learn_32 : decode cX7_learn 32 = .ok (.iconst 0, 1) := by decide +kernel
theorem dX7_learn_33 : decode cX7_learn 33 = .ok (.istore_n 2, 1) := by decide +kernel
theorem dX7_learn_34 : decode cX7_learn 34 = .ok (.goto 23, 3) := by decide +kernel
theorem dX7_learn_37 : decode cX7_learn 37 = .ok (.aload_n 0, 1) := by decide +kernel
theorem dX7_learn_38 : decode cX7_learn 38 = .ok (.aload_n 0, 1) := by decide +kernel
theorem dX7_learn_39 : decode cX7_learn 39 = .ok (.getfield 34, 3) := by decide +kernel
theorem dX7_learn_42 : decode cX7_learn 42 = .ok (.aload_n 0, 1) := by decide +kernel
theorem dX7_learn_43 : decode cX7_learn 43 = .ok (.getfield 121, 3) := by decide +kernel
theorem dX7_learn_46 : decode cX7_learn 46 = .ok (.iaload, 1) := by decide +kernel
theorem dX7_learn_47 : decode cX7_learn 47 = .ok (.iload_n 2, 1) := by decide +kernel
theorem dX7_learn_48 : decode cX7_learn 48 = .ok (.iadd, 1) := by decide +kernel
theorem dX7_learn_49 : decode cX7_learn 49 = .ok (.iload 4, 2) := by decide +kernel
theorem dX7_learn_51 : decode cX7_learn 51 = .ok (.invokevirtual 124, 3) := by decide +kernel
theorem dX7_learn_54 : decode cX7_learn 54 = .ok (.iinc 2 1, 3) := by decide +kernel
theorem dX7_learn_57 : decode cX7_learn 57 = .ok (.iinc 3 1, 3) := by decide +kernel
theorem dX7_learn_60 : decode cX7_learn 60 = .ok (.goto (-56), 3) := by decide +kernel
theorem dX7_learn_63 : decode cX7_learn 63 = .ok (.return_, 1) := by decide +kernel
theorem dJ7_fill_53178_0 : decode cJ7_fill_53178 0 = .ok (.iconst 0, 1) := by decide +kernel
theorem dJ7_fill_53178_1 : decode cJ7_fill_53178 1 = .ok (.istore_n 2, 1) := by decide +kernel
theorem dJ7_fill_53178_2 : decode cJ7_fill_53178 2 = .ok (.aload_n 0, 1) := by decide +kernel
theorem dJ7_fill_53178_3 : decode cJ7_fill_53178 3 = .ok (.arraylength, 1) := by decide +kernel
theorem dJ7_fill_53178_4 : decode cJ7_fill_53178 4 = .ok (.istore_n 3, 1) := by decide +kernel
theorem dJ7_fill_53178_5 : decode cJ7_fill_53178 5 = .ok (.iload_n 2, 1) := by decide +kernel
theorem dJ7_fill_53178_6 : decode cJ7_fill_53178 6 = .ok (.iload_n 3, 1) := by decide +kernel
theorem dJ7_fill_53178_7 : decode cJ7_fill_53178 7 = .ok (.if_icmp .ge 13, 3) := by decide +kernel
theorem dJ7_fill_53178_10 : decode cJ7_fill_53178 10 = .ok (.aload_n 0, 1) := by decide +kernel
theorem dJ7_fill_53178_11 : decode cJ7_fill_53178 11 = .ok (.iload_n 2, 1) := by decide +kernel
theorem dJ7_fill_53178_12 : decode cJ7_fill_53178 12 = .ok (.iload_n 1, 1) := by decide +kernel
theorem dJ7_fill_53178_13 : decode cJ7_fill_53178 13 = .ok (.iastore, 1) := by decide +kernel
theorem dJ7_fill_53178_14 : decode cJ7_fill_53178 14 = .ok (.iinc 2 1, 3) := by decide +kernel
theorem dJ7_fill_53178_17 : decode cJ7_fill_53178 17 = .ok (.goto (-12), 3) := by decide +kernel
theorem dJ7_fill_53178_20 : decode cJ7_fill_53178 20 = .ok (.return_, 1) := by decide +kernel
theorem va_P_nil {D : va_G} {cl : List vw_C} {H : Heap} : va_P D cl [] H := fun k q h => by simp at h
theorem va_D_nil {A : Nat → Prop} : va_D A [] := by
  refine ⟨?_, ?_⟩
  · intro i j; intros; simp_all
  · intro k q h; simp at h
theorem k_D0 {fF fF1 fN u : Nat → Int32} (e : fF1 = upd fF (0 : Int32).toNatClampNeg 0) (h : ∀ k, k < 512 → u k = -1) : kD 0 fF1 fN u := by
  refine ⟨by omega, fun k hk => ⟨0, by omega, ?_⟩, fun k hk => Or.inl (h k hk), fun k hk => absurd hk (by omega)⟩
  have hk0 : k = 0 := by omega
  subst hk0
  rw [e]
  simp [upd, nI_0]
set_option maxHeartbeats 4000000 in
set_option maxRecDepth 100000 in
theorem c_J_fill (l : Launch) (dC : Nat → ClassId) (dI : Nat → Nat → Nat) (sz qb : Nat) (cb : ClassId) (f : Nat → Int32) (x : Int32) : Met l yJ7_fill_53178 (.code yJ7_fill_53178 cJ7_fill_53178 4 none :: wP) ({ frames := 0, cells := 0, slots := 0, locals := 0 }) (va_Pc [.ref qb, .int x] (fun U => U.heap.size = sz ∧ True ∧ va_P (dC, dI) vwCl [(qb, .inl (cb, 512, .inl f))] U.heap ∧ va_K (dC, dI) vwCl [(cb, .int)] U ∧ va_D (fun _ => True) [(qb, .inl (cb, 512, .inl f))])) (va_Qv (fun (f : Nat → Int32) => ∀ k, k < 512 → f k = x) (fun (f' : Nat → Int32) (t : State) => va_P (dC, dI) vwCl [(qb, .inl (cb, 512, .inl f'))] t.heap ∧ va_K (dC, dI) vwCl [(cb, .int)] t ∧ va_D (va_A [(qb, .inl (cb, 512, .inl f))] sz) [(qb, .inl (cb, 512, .inl f'))]) (va_A [(qb, .inl (cb, 512, .inl f))] sz)) 0 0 (va_A [(qb, .inl (cb, 512, .inl f))] sz) := by
  refine Met.ofW (cc := cJ7_fill_53178) (maxL := 4) (ret := none) (by decide) rfl ?_
  intro p e s m args below meth c s₁ B hml hv
  obtain ⟨rfl, hsz, hTr, hP, hK, hD0⟩ := hv
  have hx := B.exec
  have hb := B.bytes
  have hr := B.returns
  have hts := atoms_spec (ws := .code yJ7_fill_53178 cJ7_fill_53178 4 none :: wP) B.pre
  have hown : s.vm.findClass RJ7 = some m.cls := findClass_of_methodNamed B.named
  subst hsz
  have hD := hD0.self (sz := s.heap.size)
  generalize hAe : va_A [(qb, .inl (cb, 512, .inl f))] s.heap.size = A at hD ⊢
  have hA : ∀ q : Nat, s.heap.size ≤ q → A q := fun q h => by rw [← hAe]; exact Or.inr h
  have hS : va_S A s.heap s.heap [] := va_S.rf
  have hl := lv_entry ([.ref qb, .int x]) (n := 4) (Nat.le_of_ble_eq_true rfl)
  rw [lg_entry_eq]
  generalize (lg_sl ([.ref qb, .int x]) ++ List.replicate (4 - (lg_sl ([.ref qb, .int x])).length) Slot.unset).toArray = ls at hl ⊢
  obtain ⟨H, hHe⟩ : ∃ H, H = s.heap := ⟨_, rfl⟩
  rw [← hHe] at hP ⊢
  have hS : va_S A s.heap H [] := by rw [hHe]; exact hS
  have hl : lv_has ls 4 [(0, .ref qb), (1, .int x)] := hl
  clear hAe hD0 hHe
  refine lv_iconst (v := 0) hx hb dJ7_fill_53178_0 (by decide) ?_
  refine lv_istore_n (lv' := [(2, .int 0), (0, .ref qb), (1, .int x)]) hx hb dJ7_fill_53178_1 rfl hl (by decide) rfl (fun ls hl => ?_)
  refine lv_aload_n hx hb dJ7_fill_53178_2 rfl (lv_at hl 1 rfl) ?_
  refine va_alen hx hb hK hP 0 0 rfl rfl (v := 512) rfl dJ7_fill_53178_3 ?_
  refine lv_istore_n (lv' := [(3, .int 512), (2, .int 0), (0, .ref qb), (1, .int x)]) hx hb dJ7_fill_53178_4 rfl hl (by decide) rfl (fun ls hl => ?_)
  generalize hlc : ([] : List Loc) = locs at hS ⊢
  obtain ⟨i, hi, e0, hf⟩ : ∃ i : Nat, i ≤ 512 ∧ (0 : Int32) = nI i ∧ ∀ k, k < i → f k = x := ⟨0, by omega, rfl, fun k h => absurd h (by omega)⟩
  have hl2 : lv_has ls 4 [(2, .int (nI i)), (3, .int 512), (0, .ref qb), (1, .int x)] := by rw [← e0]; exact lv_sub hl [1, 0, 2, 3] rfl
  clear e0 hlc hl
  have hl := hl2
  clear hl2
  obtain ⟨k, hk⟩ : ∃ k : Nat, i + k = 512 := ⟨512 - i, by omega⟩
  induction k generalizing i f H locs ls with
  | zero =>
    have hi : i = 512 := by omega
    subst hi
    refine lv_iload_n hx hb dJ7_fill_53178_5 rfl (lv_at hl 0 rfl) ?_
    refine lv_iload_n hx hb dJ7_fill_53178_6 rfl (lv_at hl 1 rfl) ?_
    refine lv_icmp_ge (tgt := 20) hx hb dJ7_fill_53178_7 (by decide) (fun _ => ?_) (fun h => absurd (by decide) h)
    exact W.vret hx hb hr (fun t ht hW => ⟨⟨f, rfl, hf, by rw [ht]; exact hP, va_K.moved hW.alike hK, hD⟩, hS.F ht⟩) hS.2.2 dJ7_fill_53178_20
  | succ k ih =>
    refine lv_iload_n hx hb dJ7_fill_53178_5 rfl (lv_at hl 0 rfl) ?_
    refine lv_iload_n hx hb dJ7_fill_53178_6 rfl (lv_at hl 1 rfl) ?_
    refine lv_icmp_ge (tgt := 20) hx hb dJ7_fill_53178_7 (by decide) (fun h => absurd h (nI_ge (b := 512) (by omega) (by decide))) (fun _ => ?_)
    refine lv_aload_n hx hb dJ7_fill_53178_10 rfl (lv_at hl 2 rfl) ?_
    refine lv_iload_n hx hb dJ7_fill_53178_11 rfl (lv_at hl 0 rfl) ?_
    refine lv_iload_n hx hb dJ7_fill_53178_12 rfl (lv_at hl 3 rfl) ?_
    refine kq_iast hx hb hK hP hD hS 0 0 rfl rfl (vp_in_nI (by omega) (by decide)) dJ7_fill_53178_13 (fun H locs f1 ef hP hD hS => ?_)
    have hP : va_P (dC, dI) vwCl [(qb, .inl (cb, 512, .inl f1))] H := hP
    have hD : va_D A [(qb, .inl (cb, 512, .inl f1))] := hD
    have hf1 : ∀ k, k < i + 1 → f1 k = x := fun k h => by
      rw [ef, nI_clamp (by omega)]
      by_cases e : k = i
      · simp [upd, e]
      · simp [upd, e, hf k (by omega)]
    refine lv_iinc (v := nI (i + 1)) (lv' := [(2, .int (nI (i + 1))), (3, .int 512), (0, .ref qb), (1, .int x)]) hx hb dJ7_fill_53178_14 hl (k := 0) rfl (nI_1 _) (by decide) rfl (fun ls hl => ?_)
    refine lv_goto (tgt := 5) hx hb dJ7_fill_53178_17 (by decide) ?_
    apply ih (i := i + 1) (f := f1) <;> first | assumption | omega
set_option maxHeartbeats 4000000 in
set_option maxRecDepth 100000 in
/-- c_Text_learn -/
theorem c_Text_learn (l : Launch) (dC : Nat → ClassId) (dI : Nat → Nat → Nat) (h0 sz : Nat) (ft : List Value) (ql qf qn qb qk qv qi qs : Nat) (cl cf cn cb : ClassId) (g fF fN fB : Nat → Int32) (N : Nat) (q v ln : Nat) (f : Nat → Int32) : Met l yX7_learn (.code yX7_learn cX7_learn 5 none :: wP) ({ frames := 4, cells := 0, slots := 0, locals := 85 }) (va_Pc [.ref h0, .ref q] (fun U => U.heap.size = sz ∧ kJ 19 [(18, .int (nI N)), (14, .ref ql), (15, .ref qf), (16, .ref qn), (17, .ref qb), (2, .ref qk), (3, .ref qv), (4, .ref qi), (5, .ref qs), (1, .int 0)] ft ∧ ln ≤ 100 ∧ kD N fF fN fB ∧ va_P (dC, dI) vwCl [(h0, .inr (7, ft)), (ql, .inl (cl, 6400, .inl g)), (qf, .inl (cf, 3150, .inl fF)), (qn, .inl (cn, 3150, .inl fN)), (qb, .inl (cb, 512, .inl fB))] U.heap ∧ va_K (dC, dI) vwCl [(cl, .byte), (cf, .int), (cn, .int), (cb, .int)] U ∧ va_D (fun _ => True) [(h0, .inr (7, ft)), (ql, .inl (cl, 6400, .inl g)), (qf, .inl (cf, 3150, .inl fF)), (qn, .inl (cn, 3150, .inl fN)), (qb, .inl (cb, 512, .inl fB))] ∧ kS q v ln f (va_A [(h0, .inr (7, ft)), (ql, .inl (cl, 6400, .inl g)), (qf, .inl (cf, 3150, .inl fF)), (qn, .inl (cn, 3150, .inl fN)), (qb, .inl (cb, 512, .inl fB))] sz) U U.heap ∧ kE (va_A [(h0, .inr (7, ft)), (ql, .inl (cl, 6400, .inl g)), (qf, .inl (cf, 3150, .inl fF)), (qn, .inl (cn, 3150, .inl fN)), (qb, .inl (cb, 512, .inl fB))] sz) U U.heap)) (va_Qv (fun (u : Nat × List Value × (Nat → Int32) × (Nat → Int32) × (Nat → Int32) × (Nat → Int32)) => match u with | (N, ft, g, fF, fN, fB) => kJ 19 [(18, .int (nI N)), (14, .ref ql), (15, .ref qf), (16, .ref qn), (17, .ref qb), (2, .ref qk), (3, .ref qv), (4, .ref qi), (5, .ref qs), (1, .int 0)] ft ∧ kD N fF fN fB) (fun (u : Nat × List Value × (Nat → Int32) × (Nat → Int32) × (Nat → Int32) × (Nat → Int32)) (t : State) => match u with | (N', ft', g', fF', fN', fB') => va_P (dC, dI) vwCl [(h0, .inr (7, ft')), (ql, .inl (cl, 6400, .inl g')), (qf, .inl (cf, 3150, .inl fF')), (qn, .inl (cn, 3150, .inl fN')), (qb, .inl (cb, 512, .inl fB'))] t.heap ∧ va_K (dC, dI) vwCl [(cl, .byte), (cf, .int), (cn, .int), (cb, .int)] t ∧ va_D (va_A [(h0, .inr (7, ft)), (ql, .inl (cl, 6400, .inl g)), (qf, .inl (cf, 3150, .inl fF)), (qn, .inl (cn, 3150, .inl fN)), (qb, .inl (cb, 512, .inl fB))] sz) [(h0, .inr (7, ft')), (ql, .inl (cl, 6400, .inl g')), (qf, .inl (cf, 3150, .inl fF')), (qn, .inl (cn, 3150, .inl fN')), (qb, .inl (cb, 512, .inl fB'))]) (va_A [(h0, .inr (7, ft)), (ql, .inl (cl, 6400, .inl g)), (qf, .inl (cf, 3150, .inl fF)), (qn, .inl (cn, 3150, .inl fN)), (qb, .inl (cb, 512, .inl fB))] sz)) 0 0 (va_A [(h0, .inr (7, ft)), (ql, .inl (cl, 6400, .inl g)), (qf, .inl (cf, 3150, .inl fF)), (qn, .inl (cn, 3150, .inl fN)), (qb, .inl (cb, 512, .inl fB))] sz) := by
  refine Met.ofW (cc := cX7_learn) (maxL := 5) (ret := none) (by decide) rfl ?_
  intro p e s m args below meth c s₁ B hml hv
  obtain ⟨rfl, hsz, hT, hln, hK4, hP, hK, hD0, hQ, hE⟩ := hv
  have hx := B.exec
  have hb := B.bytes
  have hr := B.returns
  have hts := atoms_spec (ws := .code yX7_learn cX7_learn 5 none :: wP) B.pre
  have hown : s.vm.findClass RX7 = some m.cls := findClass_of_methodNamed B.named
  subst hsz
  have hD := hD0.self (sz := s.heap.size)
  generalize hAe : va_A [(h0, .inr (7, ft)), (ql, .inl (cl, 6400, .inl g)), (qf, .inl (cf, 3150, .inl fF)), (qn, .inl (cn, 3150, .inl fN)), (qb, .inl (cb, 512, .inl fB))] s.heap.size = A at hD hQ hE ⊢
  have hA : ∀ q : Nat, s.heap.size ≤ q → A q := fun q h => by rw [← hAe]; exact Or.inr h
  have hS : va_S A s.heap s.heap [] := va_S.rf
  have hl := lv_entry ([.ref h0, .ref q]) (n := 5) (Nat.le_of_ble_eq_true rfl)
  rw [lg_entry_eq]
  generalize (lg_sl ([.ref h0, .ref q]) ++ List.replicate (5 - (lg_sl ([.ref h0, .ref q])).length) Slot.unset).toArray = ls at hl ⊢
  obtain ⟨H, hHe⟩ : ∃ H, H = s.heap := ⟨_, rfl⟩
  rw [← hHe] at hP ⊢
  have hS : va_S A s.heap H [] := by rw [hHe]; exact hS
  have hl : lv_has ls 5 [(0, .ref h0), (1, .ref q)] := hl
  clear hAe hD0 hHe
  refine lv_iconst (v := 0) hx hb dX7_learn_0 (by decide) ?_
  refine lv_istore_n (lv' := [(2, .int 0), (0, .ref h0), (1, .ref q)]) hx hb dX7_learn_1 rfl hl (by decide) rfl (fun ls hl => ?_)
  refine lv_iconst (v := 0) hx hb dX7_learn_2 (by decide) ?_
  refine lv_istore_n (lv' := [(3, .int 0), (2, .int 0), (0, .ref h0), (1, .ref q)]) hx hb dX7_learn_3 rfl hl (by decide) rfl (fun ls hl => ?_)
  generalize hlc : ([] : List Loc) = locs at hS ⊢
  obtain ⟨i, n, hni, hi, e0, e1⟩ : ∃ i n : Nat, n ≤ i ∧ i ≤ ln ∧ (0 : Int32) = nI i ∧ (0 : Int32) = nI n := ⟨0, 0, by omega, by omega, rfl, rfl⟩
  have hl2 : lv_has ls 5 [(3, .int (nI i)), (2, .int (nI n)), (0, .ref h0), (1, .ref q)] := by rw [← e0, ← e1]; exact lv_sub hl [0, 1, 2, 3] rfl
  clear e0 e1 hlc hl
  have hl := hl2
  clear hl2
  obtain ⟨k, hk⟩ : ∃ k : Nat, i + k = ln := ⟨ln - i, by omega⟩
  induction k generalizing i n N ft g fF fN fB H locs ls with
  | zero =>
    have hN0 : N ≤ 3149 := hK4.1
    refine lv_iload_n hx hb dX7_learn_4 rfl (lv_at hl 0 rfl) ?_
    refine lv_aload_n hx hb dX7_learn_5 rfl (lv_at hl 3 rfl) ?_
    have hPc := hP.sub (ws' := []) [] rfl
    have hDc := hD.sub (ws' := []) [] (by decide) rfl
    have hKc := hK.sub (tys' := []) [] rfl
    have hFc := va_free (wc := []) hD hS hA [] rfl
    refine va_calli (va_runV (As := []) (rest := [.int (nI i)]) ⟨hx, hb, hml, hown, hts⟩ (c_J_length l dC dI H.size q v ln f) (cwV 0 hts (gV (y := yJ0_length_8abf5) _ 482 483 484 455 465 rfl rfl rfl rfl rfl) rfl rfl rfl (by decide +kernel) ⟨Nat.le_of_ble_eq_true rfl, Nat.le_of_ble_eq_true rfl⟩) ⟨fun a U g mk q => by obtain ⟨q0, q1, p0, qP, qK, qD, z0, z1⟩ := q; exact ⟨q0, q1, p0, qP, va_K.moved (u := U) (U := U.calling g mk a) (Vm.Alike.refl U.vm) qK, qD, kS.moved (u := U) (U := U.calling g mk a) (Vm.Alike.refl U.vm) z0, kE.moved (u := U) (U := U.calling g mk a) (Vm.Alike.refl U.vm) z1⟩, hQ.recv hS, fun U hU hW => ⟨rfl, by rw [hU], by omega, by rw [hU]; exact hPc, va_K.moved hW.alike hKc, hDc.weaken (fun _ _ _ _ => trivial), by rw [hU]; exact kS.moved hW.alike ((hQ.kept hS.2.1).narrow hFc), by rw [hU]; exact kE.moved hW.alike ((hE.kept hS.2.1).narrow hFc)⟩⟩ rfl rfl hl.1 rfl (lv_room (Nat.le_of_ble_eq_true rfl)) dX7_learn_6 ⟨Nat.le_of_ble_eq_true rfl, Nat.le_of_ble_eq_true rfl⟩) hS (fun q _ h => hFc q h) hFc (fun lr u t H1 locs ht hvm hw hB hz1 hk1 hS => ?_)
    obtain ⟨hP, hD⟩ := va_join (wr := [(h0, .inr (7, ft)), (ql, .inl (cl, 6400, .inl g)), (qf, .inl (cf, 3150, .inl fF)), (qn, .inl (cn, 3150, .inl fN)), (qb, .inl (cb, 512, .inl fB))]) (w1 := []) hP hD [] [0, 1, 2, 3, 4] rfl rfl (by decide) (by decide) hk1 hFc (va_P_nil (H := H1)) va_D_nil
    clear hPc hDc hKc hFc hk1 hz1 ht hB
    generalize H1 = H at hP hS ⊢
    have hP : va_P (dC, dI) vwCl [(h0, .inr (7, ft)), (ql, .inl (cl, 6400, .inl g)), (qf, .inl (cf, 3150, .inl fF)), (qn, .inl (cn, 3150, .inl fN)), (qb, .inl (cb, 512, .inl fB))] H := hP
    have hD : va_D A [(h0, .inr (7, ft)), (ql, .inl (cl, 6400, .inl g)), (qf, .inl (cf, 3150, .inl fF)), (qn, .inl (cn, 3150, .inl fN)), (qb, .inl (cb, 512, .inl fB))] := hD
    subst hw
    refine lv_icmp_ge (tgt := 63) hx hb dX7_learn_9 (by decide) (fun _ => ?_) (fun h => absurd (nI_le (by omega) (by omega)) h)
    exact W.vret hx hb hr (fun t ht hW => ⟨⟨(N, ft, g, fF, fN, fB), rfl, ⟨hT, hK4⟩, by rw [ht]; exact hP, va_K.moved hW.alike hK, hD⟩, hS.F ht⟩) hS.2.2 dX7_learn_63
  | succ k ih =>
    have hN0 : N ≤ 3149 := hK4.1
    refine lv_iload_n hx hb dX7_learn_4 rfl (lv_at hl 0 rfl) ?_
    refine lv_aload_n hx hb dX7_learn_5 rfl (lv_at hl 3 rfl) ?_
    have hPc := hP.sub (ws' := []) [] rfl
    have hDc := hD.sub (ws' := []) [] (by decide) rfl
    have hKc := hK.sub (tys' := []) [] rfl
    have hFc := va_free (wc := []) hD hS hA [] rfl
    refine va_calli (va_runV (As := []) (rest := [.int (nI i)]) ⟨hx, hb, hml, hown, hts⟩ (c_J_length l dC dI H.size q v ln f) (cwV 0 hts (gV (y := yJ0_length_8abf5) _ 482 483 484 455 465 rfl rfl rfl rfl rfl) rfl rfl rfl (by decide +kernel) ⟨Nat.le_of_ble_eq_true rfl, Nat.le_of_ble_eq_true rfl⟩) ⟨fun a U g mk q => by obtain ⟨q0, q1, p0, qP, qK, qD, z0, z1⟩ := q; exact ⟨q0, q1, p0, qP, va_K.moved (u := U) (U := U.calling g mk a) (Vm.Alike.refl U.vm) qK, qD, kS.moved (u := U) (U := U.calling g mk a) (Vm.Alike.refl U.vm) z0, kE.moved (u := U) (U := U.calling g mk a) (Vm.Alike.refl U.vm) z1⟩, hQ.recv hS, fun U hU hW => ⟨rfl, by rw [hU], by omega, by rw [hU]; exact hPc, va_K.moved hW.alike hKc, hDc.weaken (fun _ _ _ _ => trivial), by rw [hU]; exact kS.moved hW.alike ((hQ.kept hS.2.1).narrow hFc), by rw [hU]; exact kE.moved hW.alike ((hE.kept hS.2.1).narrow hFc)⟩⟩ rfl rfl hl.1 rfl (lv_room (Nat.le_of_ble_eq_true rfl)) dX7_learn_6 ⟨Nat.le_of_ble_eq_true rfl, Nat.le_of_ble_eq_true rfl⟩) hS (fun q _ h => hFc q h) hFc (fun lr u t H1 locs ht hvm hw hB hz1 hk1 hS => ?_)
    obtain ⟨hP, hD⟩ := va_join (wr := [(h0, .inr (7, ft)), (ql, .inl (cl, 6400, .inl g)), (qf, .inl (cf, 3150, .inl fF)), (qn, .inl (cn, 3150, .inl fN)), (qb, .inl (cb, 512, .inl fB))]) (w1 := []) hP hD [] [0, 1, 2, 3, 4] rfl rfl (by decide) (by decide) hk1 hFc (va_P_nil (H := H1)) va_D_nil
    clear hPc hDc hKc hFc hk1 hz1 ht hB
    generalize H1 = H at hP hS ⊢
    have hP : va_P (dC, dI) vwCl [(h0, .inr (7, ft)), (ql, .inl (cl, 6400, .inl g)), (qf, .inl (cf, 3150, .inl fF)), (qn, .inl (cn, 3150, .inl fN)), (qb, .inl (cb, 512, .inl fB))] H := hP
    have hD : va_D A [(h0, .inr (7, ft)), (ql, .inl (cl, 6400, .inl g)), (qf, .inl (cf, 3150, .inl fF)), (qn, .inl (cn, 3150, .inl fN)), (qb, .inl (cb, 512, .inl fB))] := hD
    subst hw
    refine lv_icmp_ge (tgt := 63) hx hb dX7_learn_9 (by decide) (fun h => absurd h (nI_ge (by omega) (by omega))) (fun _ => ?_)
    refine lv_aload_n hx hb dX7_learn_12 rfl (lv_at hl 3 rfl) ?_
    refine lv_iload_n hx hb dX7_learn_13 rfl (lv_at hl 0 rfl) ?_
    have hPc := hP.sub (ws' := []) [] rfl
    have hDc := hD.sub (ws' := []) [] (by decide) rfl
    have hKc := hK.sub (tys' := []) [] rfl
    have hFc := va_free (wc := []) hD hS hA [] rfl
    refine va_calli (va_runV (As := [.int (nI i)]) (rest := []) ⟨hx, hb, hml, hown, hts⟩ (c_J_charAt l dC dI H.size q v ln i f) (cwV 1 hts (gV (y := yJ0_charAt_5068e) _ 485 486 487 455 472 rfl rfl rfl rfl rfl) rfl rfl rfl (by decide +kernel) ⟨Nat.le_of_ble_eq_true rfl, Nat.le_of_ble_eq_true rfl⟩) ⟨fun a U g mk q => by obtain ⟨q0, q1, p0, p1, qP, qK, qD, z0, z1⟩ := q; exact ⟨q0, q1, p0, p1, qP, va_K.moved (u := U) (U := U.calling g mk a) (Vm.Alike.refl U.vm) qK, qD, kS.moved (u := U) (U := U.calling g mk a) (Vm.Alike.refl U.vm) z0, kE.moved (u := U) (U := U.calling g mk a) (Vm.Alike.refl U.vm) z1⟩, hQ.recv hS, fun U hU hW => ⟨rfl, by rw [hU], by omega, by omega, by rw [hU]; exact hPc, va_K.moved hW.alike hKc, hDc.weaken (fun _ _ _ _ => trivial), by rw [hU]; exact kS.moved hW.alike ((hQ.kept hS.2.1).narrow hFc), by rw [hU]; exact kE.moved hW.alike ((hE.kept hS.2.1).narrow hFc)⟩⟩ rfl rfl hl.1 rfl (lv_room (Nat.le_of_ble_eq_true rfl)) dX7_learn_14 ⟨Nat.le_of_ble_eq_true rfl, Nat.le_of_ble_eq_true rfl⟩) hS (fun q _ h => hFc q h) hFc (fun ch u t H1 locs ht hvm hw hB hz1 hk1 hS => ?_)
    obtain ⟨hP, hD⟩ := va_join (wr := [(h0, .inr (7, ft)), (ql, .inl (cl, 6400, .inl g)), (qf, .inl (cf, 3150, .inl fF)), (qn, .inl (cn, 3150, .inl fN)), (qb, .inl (cb, 512, .inl fB))]) (w1 := []) hP hD [] [0, 1, 2, 3, 4] rfl rfl (by decide) (by decide) hk1 hFc (va_P_nil (H := H1)) va_D_nil
    clear hPc hDc hKc hFc hk1 hz1 ht hB
    generalize H1 = H at hP hS ⊢
    have hP : va_P (dC, dI) vwCl [(h0, .inr (7, ft)), (ql, .inl (cl, 6400, .inl g)), (qf, .inl (cf, 3150, .inl fF)), (qn, .inl (cn, 3150, .inl fN)), (qb, .inl (cb, 512, .inl fB))] H := hP
    have hD : va_D A [(h0, .inr (7, ft)), (ql, .inl (cl, 6400, .inl g)), (qf, .inl (cf, 3150, .inl fF)), (qn, .inl (cn, 3150, .inl fN)), (qb, .inl (cb, 512, .inl fB))] := hD
    refine lv_istore (lv' := [(4, .int ch), (3, .int (nI i)), (2, .int (nI n)), (0, .ref h0), (1, .ref q)]) hx hb dX7_learn_17 hl (by decide) rfl (fun ls hl => ?_)
    refine lv_iload hx hb dX7_learn_19 (lv_at hl 0 rfl) ?_
    refine lv_bipush (v := 32) hx hb dX7_learn_21 (by decide) ?_
    refine lv_icmp_ne (tgt := 37) hx hb dX7_learn_23 (by decide) (fun h23 => ?_) (fun h23 => ?_)
    · refine lv_aload_n hx hb dX7_learn_37 rfl (lv_at hl 3 rfl) ?_
      refine lv_aload_n hx hb dX7_learn_38 rfl (lv_at hl 3 rfl) ?_
      refine va_get (D := (dC, dI)) (ci := 7) (v := .ref qf) (C := RX7) (T := TX7) (N := 19) hx hb hts iX7 hown hK hP 0 rfl rfl 15 (by decide) (hts _ (bP 301 rfl)) (fun _ h9 => h9) (kJ_at hT 2 rfl) dX7_learn_39 ?_
      refine lv_aload_n hx hb dX7_learn_42 rfl (lv_at hl 3 rfl) ?_
      refine va_get (D := (dC, dI)) (ci := 7) (v := .int (nI N)) (C := RX7) (T := TX7) (N := 19) hx hb hts iX7 hown hK hP 0 rfl rfl 18 (by decide) (hts _ (bP 476 rfl)) (fun _ h9 => h9) (kJ_at hT 0 rfl) dX7_learn_43 ?_
      refine va_iald hx hb hK hP 2 1 rfl rfl (vp_in_nI (by omega) (by decide)) dX7_learn_46 ?_
      refine lv_topi (fun z1 ez1 => ?_)
      refine lv_iload_n hx hb dX7_learn_47 rfl (lv_at hl 2 rfl) ?_
      refine lv_iadd hx hb dX7_learn_48 ?_
      refine lv_topi (fun z2 ez2 => ?_)
      refine lv_iload hx hb dX7_learn_49 (lv_at hl 0 rfl) ?_
      have hPc := hP.sub (ws' := [(h0, .inr (7, ft)), (ql, .inl (cl, 6400, .inl g))]) [0, 1] rfl
      have hDc := hD.sub (ws' := [(h0, .inr (7, ft)), (ql, .inl (cl, 6400, .inl g))]) [0, 1] (by decide) rfl
      have hKc := hK.sub (tys' := [(cl, .byte)]) [0] rfl
      have hFc := va_free (wc := [(h0, .inr (7, ft)), (ql, .inl (cl, 6400, .inl g))]) hD hS hA [0, 1] rfl
      refine va_callv (va_runV (As := [.int z2, .int ch]) (rest := []) ⟨hx, hb, hml, hown, hts⟩ (c_Text_setLetter l dC dI h0 H.size ft ql cl g z2 ch) (cwV 2 hts (gV (y := yX7_setLetter) _ 488 489 490 343 473 rfl rfl rfl rfl rfl) rfl rfl rfl (by decide +kernel) ⟨Nat.le_of_ble_eq_true rfl, Nat.le_of_ble_eq_true rfl⟩) ⟨fun a U g mk q => by obtain ⟨q0, q1, qJ, qP, qK, qD⟩ := q; exact ⟨q0, q1, qJ, qP, va_K.moved (u := U) (U := U.calling g mk a) (Vm.Alike.refl U.vm) qK, qD⟩, va_recv hKc hPc (ci := 7) (q0 := 0) rfl rfl, fun U hU hW => ⟨rfl, by rw [hU], kJ_sub hT (by simp), by rw [hU]; exact hPc, va_K.moved hW.alike hKc, hDc.weaken (fun _ _ _ _ => trivial)⟩⟩ rfl rfl hl.1 rfl (lv_room (Nat.le_of_ble_eq_true rfl)) dX7_learn_51 ⟨Nat.le_of_ble_eq_true rfl, Nat.le_of_ble_eq_true rfl⟩) hS (fun q _ h => hFc q h) hFc (fun u t H1 locs ht hvm hw hB hz1 hk1 hS => ?_)
      obtain ⟨hP1, hK1, hD1⟩ := hB
      rw [ht] at hP1
      have hK1 := va_K.moved hvm.symm hK1
      obtain ⟨hP, hD⟩ := va_join (wr := [(qf, .inl (cf, 3150, .inl fF)), (qn, .inl (cn, 3150, .inl fN)), (qb, .inl (cb, 512, .inl fB))]) (w1 := [(h0, .inr (7, ft)), (ql, .inl (cl, 6400, .inl u))]) hP hD [0, 1] [2, 3, 4] rfl rfl (by decide) (by decide) hk1 hFc hP1 hD1
      have hK := (hK.sub (tys' := [(cf, .int), (cn, .int), (cb, .int)]) [1, 2, 3] rfl).app hK1
      clear hPc hDc hKc hFc hP1 hK1 hD1 hk1 hz1
      generalize H1 = H at hP hS ⊢
      have hP : va_P (dC, dI) vwCl [(qf, .inl (cf, 3150, .inl fF)), (qn, .inl (cn, 3150, .inl fN)), (qb, .inl (cb, 512, .inl fB)), (h0, .inr (7, ft)), (ql, .inl (cl, 6400, .inl u))] H := hP
      have hD : va_D A [(qf, .inl (cf, 3150, .inl fF)), (qn, .inl (cn, 3150, .inl fN)), (qb, .inl (cb, 512, .inl fB)), (h0, .inr (7, ft)), (ql, .inl (cl, 6400, .inl u))] := hD
      have hK : va_K (dC, dI) vwCl [(cf, .int), (cn, .int), (cb, .int), (cl, .byte)] s := hK
      have hP := hP.sub (ws' := [(h0, .inr (7, ft)), (ql, .inl (cl, 6400, .inl u)), (qf, .inl (cf, 3150, .inl fF)), (qn, .inl (cn, 3150, .inl fN)), (qb, .inl (cb, 512, .inl fB))]) [3, 4, 0, 1, 2] rfl
      have hD := hD.sub (ws' := [(h0, .inr (7, ft)), (ql, .inl (cl, 6400, .inl u)), (qf, .inl (cf, 3150, .inl fF)), (qn, .inl (cn, 3150, .inl fN)), (qb, .inl (cb, 512, .inl fB))]) [3, 4, 0, 1, 2] (by decide) rfl
      have hK := hK.sub (tys' := [(cl, .byte), (cf, .int), (cn, .int), (cb, .int)]) [3, 0, 1, 2] rfl
      refine lv_iinc (v := nI (n + 1)) (lv' := [(2, .int (nI (n + 1))), (4, .int ch), (3, .int (nI i)), (0, .ref h0), (1, .ref q)]) hx hb dX7_learn_54 hl (k := 2) rfl (nI_1 _) (by decide) rfl (fun ls hl => ?_)
      refine lv_iinc (v := nI (i + 1)) (lv' := [(3, .int (nI (i + 1))), (2, .int (nI (n + 1))), (4, .int ch), (0, .ref h0), (1, .ref q)]) hx hb dX7_learn_57 hl (k := 2) rfl (nI_1 _) (by decide) rfl (fun ls hl => ?_)
      refine lv_goto (tgt := 4) hx hb dX7_learn_60 (by decide) ?_
      have hl : lv_has ls 5 [(3, .int (nI (i + 1))), (2, .int (nI (n + 1))), (0, .ref h0), (1, .ref q)] := lv_sub hl [0, 1, 3, 4] rfl
      apply ih (i := i + 1) (n := n + 1) (N := N) (ft := ft) (g := u) (fF := fF) (fN := fN) (fB := fB) <;> first | assumption | omega
    · refine lv_aload_n hx hb dX7_learn_26 rfl (lv_at hl 3 rfl) ?_
      refine lv_iload_n hx hb dX7_learn_27 rfl (lv_at hl 2 rfl) ?_
      have hPc := hP.sub (ws' := [(h0, .inr (7, ft)), (ql, .inl (cl, 6400, .inl g)), (qf, .inl (cf, 3150, .inl fF)), (qn, .inl (cn, 3150, .inl fN)), (qb, .inl (cb, 512, .inl fB))]) [0, 1, 2, 3, 4] rfl
      have hDc := hD.sub (ws' := [(h0, .inr (7, ft)), (ql, .inl (cl, 6400, .inl g)), (qf, .inl (cf, 3150, .inl fF)), (qn, .inl (cn, 3150, .inl fN)), (qb, .inl (cb, 512, .inl fB))]) [0, 1, 2, 3, 4] (by decide) rfl
      have hKc := hK.sub (tys' := [(cl, .byte), (cf, .int), (cn, .int), (cb, .int)]) [0, 1, 2, 3] rfl
      have hFc := va_free (wc := [(h0, .inr (7, ft)), (ql, .inl (cl, 6400, .inl g)), (qf, .inl (cf, 3150, .inl fF)), (qn, .inl (cn, 3150, .inl fN)), (qb, .inl (cb, 512, .inl fB))]) hD hS hA [0, 1, 2, 3, 4] rfl
      refine va_calli (va_runV (As := [.int (nI n)]) (rest := []) ⟨hx, hb, hml, hown, hts⟩ (c_Text_known l dC dI h0 H.size ft ql qf qn qb qk qv qi qs cl cf cn cb g fF fN fB N n) (cwV 1 hts (gV (y := yX7_known) _ 491 492 493 343 475 rfl rfl rfl rfl rfl) rfl rfl rfl (by decide +kernel) ⟨Nat.le_of_ble_eq_true rfl, Nat.le_of_ble_eq_true rfl⟩) ⟨fun a U g mk q => by obtain ⟨q0, q1, qJ, q3, q4, qP, qK, qD⟩ := q; exact ⟨q0, q1, qJ, q3, q4, qP, va_K.moved (u := U) (U := U.calling g mk a) (Vm.Alike.refl U.vm) qK, qD⟩, va_recv hKc hPc (ci := 7) (q0 := 0) rfl rfl, fun U hU hW => ⟨rfl, by rw [hU], hT, by omega, hK4, by rw [hU]; exact hPc, va_K.moved hW.alike hKc, hDc.weaken (fun _ _ _ _ => trivial)⟩⟩ rfl rfl hl.1 rfl (lv_room (Nat.le_of_ble_eq_true rfl)) dX7_learn_28 ⟨Nat.le_of_ble_eq_true rfl, Nat.le_of_ble_eq_true rfl⟩) hS (fun q _ h => hFc q h) hFc (fun kr u t H1 locs ht hvm hw hB hz1 hk1 hS => ?_)
      obtain ⟨N, ft, fF, fN, fB⟩ := u
      obtain ⟨hT, hK4⟩ := hw
      obtain ⟨hP1, hK1, hD1⟩ := hB
      rw [ht] at hP1
      have hK1 := va_K.moved hvm.symm hK1
      obtain ⟨hP, hD⟩ := va_join (wr := []) (w1 := [(h0, .inr (7, ft)), (ql, .inl (cl, 6400, .inl g)), (qf, .inl (cf, 3150, .inl fF)), (qn, .inl (cn, 3150, .inl fN)), (qb, .inl (cb, 512, .inl fB))]) hP hD [0, 1, 2, 3, 4] [] rfl rfl (by decide) (by decide) hk1 hFc hP1 hD1
      have hK := (hK.sub (tys' := []) [] rfl).app hK1
      clear hPc hDc hKc hFc hP1 hK1 hD1 hk1 hz1
      generalize H1 = H at hP hS ⊢
      have hP : va_P (dC, dI) vwCl [(h0, .inr (7, ft)), (ql, .inl (cl, 6400, .inl g)), (qf, .inl (cf, 3150, .inl fF)), (qn, .inl (cn, 3150, .inl fN)), (qb, .inl (cb, 512, .inl fB))] H := hP
      have hD : va_D A [(h0, .inr (7, ft)), (ql, .inl (cl, 6400, .inl g)), (qf, .inl (cf, 3150, .inl fF)), (qn, .inl (cn, 3150, .inl fN)), (qb, .inl (cb, 512, .inl fB))] := hD
      have hK : va_K (dC, dI) vwCl [(cl, .byte), (cf, .int), (cn, .int), (cb, .int)] s := hK
      have hN0 : N ≤ 3149 := hK4.1
      refine lv_pop hx hb dX7_learn_31 rfl ?_
      refine lv_iconst (v := 0) hx hb dX7_learn_32 (by decide) ?_
      refine k_i (v := nI 0) nI_0 ?_
      refine lv_istore_n (lv' := [(2, .int (nI 0)), (4, .int ch), (3, .int (nI i)), (0, .ref h0), (1, .ref q)]) hx hb dX7_learn_33 rfl hl (by decide) rfl (fun ls hl => ?_)
      refine lv_goto (tgt := 57) hx hb dX7_learn_34 (by decide) ?_
      refine lv_iinc (v := nI (i + 1)) (lv' := [(3, .int (nI (i + 1))), (2, .int (nI 0)), (4, .int ch), (0, .ref h0), (1, .ref q)]) hx hb dX7_learn_57 hl (k := 2) rfl (nI_1 _) (by decide) rfl (fun ls hl => ?_)
      refine lv_goto (tgt := 4) hx hb dX7_learn_60 (by decide) ?_
      have hl : lv_has ls 5 [(3, .int (nI (i + 1))), (2, .int (nI 0)), (0, .ref h0), (1, .ref q)] := lv_sub hl [0, 1, 3, 4] rfl
      apply ih (i := i + 1) (n := 0) (N := N) (ft := ft) (g := g) (fF := fF) (fN := fN) (fB := fB) <;> first | assumption | omega
set_option maxHeartbeats 4000000 in
set_option maxRecDepth 100000 in
/-- c_Text_forgetNames -/
theorem c_Text_forgetNames (l : Launch) (dC : Nat → ClassId) (dI : Nat → Nat → Nat) (h0 sz : Nat) (ft : List Value) (ql qf qn qb qk qv qi qs : Nat) (cl cf cn cb : ClassId) (g fF fN fB : Nat → Int32) (s1 v1 l1 s2 v2 l2 s3 v3 l3 : Nat) (f1 f2 f3 : Nat → Int32) : Met l yX7_forgetNames (.code yX7_forgetNames cX7_forgetNames 1 none :: wP) ({ frames := 5, cells := 0, slots := 0, locals := 109 }) (va_Pc [.ref h0] (fun U => U.heap.size = sz ∧ kJ 19 [(14, .ref ql), (15, .ref qf), (16, .ref qn), (17, .ref qb), (2, .ref qk), (3, .ref qv), (4, .ref qi), (5, .ref qs), (1, .int 0)] ft ∧ l1 ≤ 100 ∧ l2 ≤ 100 ∧ l3 ≤ 100 ∧ vk_R RX7 141 "AFTER ALT AND BOOL BYTE CASE CHAN ELSE FALSE FOR FUNCTION IF INT " s1 U ∧ vk_R RX7 147 "IS MINUS MOSTNEG MOSTPOS NOT OF OR PAR PLUS PRI PROC PROTOCOL RESULT SEQ " s2 U ∧ vk_R RX7 149 "SIZE SKIP STOP TIMER TIMES TRUE VAL VALOF WHILE screen keyboard " s3 U ∧ va_P (dC, dI) vwCl [(h0, .inr (7, ft)), (ql, .inl (cl, 6400, .inl g)), (qf, .inl (cf, 3150, .inl fF)), (qn, .inl (cn, 3150, .inl fN)), (qb, .inl (cb, 512, .inl fB))] U.heap ∧ va_K (dC, dI) vwCl [(cl, .byte), (cf, .int), (cn, .int), (cb, .int)] U ∧ va_D (fun _ => True) [(h0, .inr (7, ft)), (ql, .inl (cl, 6400, .inl g)), (qf, .inl (cf, 3150, .inl fF)), (qn, .inl (cn, 3150, .inl fN)), (qb, .inl (cb, 512, .inl fB))] ∧ kS s1 v1 l1 f1 (va_A [(h0, .inr (7, ft)), (ql, .inl (cl, 6400, .inl g)), (qf, .inl (cf, 3150, .inl fF)), (qn, .inl (cn, 3150, .inl fN)), (qb, .inl (cb, 512, .inl fB))] sz) U U.heap ∧ kS s2 v2 l2 f2 (va_A [(h0, .inr (7, ft)), (ql, .inl (cl, 6400, .inl g)), (qf, .inl (cf, 3150, .inl fF)), (qn, .inl (cn, 3150, .inl fN)), (qb, .inl (cb, 512, .inl fB))] sz) U U.heap ∧ kS s3 v3 l3 f3 (va_A [(h0, .inr (7, ft)), (ql, .inl (cl, 6400, .inl g)), (qf, .inl (cf, 3150, .inl fF)), (qn, .inl (cn, 3150, .inl fN)), (qb, .inl (cb, 512, .inl fB))] sz) U U.heap ∧ kE (va_A [(h0, .inr (7, ft)), (ql, .inl (cl, 6400, .inl g)), (qf, .inl (cf, 3150, .inl fF)), (qn, .inl (cn, 3150, .inl fN)), (qb, .inl (cb, 512, .inl fB))] sz) U U.heap)) (va_Qv (fun (u : Nat × List Value × (Nat → Int32) × (Nat → Int32) × (Nat → Int32) × (Nat → Int32)) => match u with | (N, ft, g, fF, fN, fB) => kJ 19 [(18, .int (nI N)), (14, .ref ql), (15, .ref qf), (16, .ref qn), (17, .ref qb), (2, .ref qk), (3, .ref qv), (4, .ref qi), (5, .ref qs), (1, .int 0)] ft ∧ kD N fF fN fB) (fun (u : Nat × List Value × (Nat → Int32) × (Nat → Int32) × (Nat → Int32) × (Nat → Int32)) (t : State) => match u with | (N', ft', g', fF', fN', fB') => va_P (dC, dI) vwCl [(h0, .inr (7, ft')), (ql, .inl (cl, 6400, .inl g')), (qf, .inl (cf, 3150, .inl fF')), (qn, .inl (cn, 3150, .inl fN')), (qb, .inl (cb, 512, .inl fB'))] t.heap ∧ va_K (dC, dI) vwCl [(cl, .byte), (cf, .int), (cn, .int), (cb, .int)] t ∧ va_D (va_A [(h0, .inr (7, ft)), (ql, .inl (cl, 6400, .inl g)), (qf, .inl (cf, 3150, .inl fF)), (qn, .inl (cn, 3150, .inl fN)), (qb, .inl (cb, 512, .inl fB))] sz) [(h0, .inr (7, ft')), (ql, .inl (cl, 6400, .inl g')), (qf, .inl (cf, 3150, .inl fF')), (qn, .inl (cn, 3150, .inl fN')), (qb, .inl (cb, 512, .inl fB'))]) (va_A [(h0, .inr (7, ft)), (ql, .inl (cl, 6400, .inl g)), (qf, .inl (cf, 3150, .inl fF)), (qn, .inl (cn, 3150, .inl fN)), (qb, .inl (cb, 512, .inl fB))] sz)) 0 0 (va_A [(h0, .inr (7, ft)), (ql, .inl (cl, 6400, .inl g)), (qf, .inl (cf, 3150, .inl fF)), (qn, .inl (cn, 3150, .inl fN)), (qb, .inl (cb, 512, .inl fB))] sz) := by
  refine Met.ofW (cc := cX7_forgetNames) (maxL := 1) (ret := none) (by decide) rfl ?_
  intro p e s m args below meth c s₁ B hml hv
  obtain ⟨rfl, hsz, hT, hl1, hl2, hl3, hR1, hR2, hR3, hP, hK, hD0, hQ1, hQ2, hQ3, hE⟩ := hv
  have hx := B.exec
  have hb := B.bytes
  have hr := B.returns
  have hts := atoms_spec (ws := .code yX7_forgetNames cX7_forgetNames 1 none :: wP) B.pre
  have hown : s.vm.findClass RX7 = some m.cls := findClass_of_methodNamed B.named
  subst hsz
  have hD := hD0.self (sz := s.heap.size)
  generalize hAe : va_A [(h0, .inr (7, ft)), (ql, .inl (cl, 6400, .inl g)), (qf, .inl (cf, 3150, .inl fF)), (qn, .inl (cn, 3150, .inl fN)), (qb, .inl (cb, 512, .inl fB))] s.heap.size = A at hD hQ1 hQ2 hQ3 hE ⊢
  have hA : ∀ q : Nat, s.heap.size ≤ q → A q := fun q h => by rw [← hAe]; exact Or.inr h
  have hS : va_S A s.heap s.heap [] := va_S.rf
  have hl := lv_entry ([.ref h0]) (n := 1) (Nat.le_of_ble_eq_true rfl)
  rw [lg_entry_eq]
  generalize (lg_sl ([.ref h0]) ++ List.replicate (1 - (lg_sl ([.ref h0])).length) Slot.unset).toArray = ls at hl ⊢
  obtain ⟨H, hHe⟩ : ∃ H, H = s.heap := ⟨_, rfl⟩
  rw [← hHe] at hP ⊢
  have hS : va_S A s.heap H [] := by rw [hHe]; exact hS
  have hl : lv_has ls 1 [(0, .ref h0)] := hl
  refine lv_aload_n hx hb dX7_forgetNames_0 rfl (lv_at hl 0 rfl) ?_
  refine va_get (D := (dC, dI)) (ci := 7) (v := .ref qb) (C := RX7) (T := TX7) (N := 19) hx hb hts iX7 hown hK hP 0 rfl rfl 17 (by decide) (hts _ (bP 303 rfl)) (fun _ h9 => h9) (kJ_at hT 3 rfl) dX7_forgetNames_1 ?_
  refine lv_iconst (v := (-1)) hx hb dX7_forgetNames_4 (by decide) ?_
  have hPc := hP.sub (ws' := [(qb, .inl (cb, 512, .inl fB))]) [4] rfl
  have hDc := hD.sub (ws' := [(qb, .inl (cb, 512, .inl fB))]) [4] (by decide) rfl
  have hKc := hK.sub (tys' := [(cb, .int)]) [3] rfl
  have hFc := va_free (wc := [(qb, .inl (cb, 512, .inl fB))]) hD hS hA [4] rfl
  refine va_callv (va_runS (As := [.ref qb, .int (-1)]) (rest := []) ⟨hx, hb, hml, hown, hts⟩ (c_J_fill l dC dI H.size qb cb fB (-1)) (va_cwS 2 hts (gS (y := yJ7_fill_53178) _ 495 496 497 480 rfl rfl rfl rfl) rfl rfl rfl (by decide +kernel) ⟨Nat.le_of_ble_eq_true rfl, Nat.le_of_ble_eq_true rfl⟩) ⟨fun a U g mk q => by obtain ⟨q0, q1, qJ, qP, qK, qD⟩ := q; exact ⟨q0, q1, qJ, qP, va_K.moved (u := U) (U := U.calling g mk a) (Vm.Alike.refl U.vm) qK, qD⟩, fun U hU hW => ⟨rfl, by rw [hU], trivial, by rw [hU]; exact hPc, va_K.moved hW.alike hKc, hDc.weaken (fun _ _ _ _ => trivial)⟩⟩ rfl rfl hl.1 rfl (lv_room (Nat.le_of_ble_eq_true rfl)) dX7_forgetNames_5 ⟨Nat.le_of_ble_eq_true rfl, Nat.le_of_ble_eq_true rfl⟩) hS (fun q _ h => hFc q h) hFc (fun u t H1 locs ht hvm hw hB hz1 hk1 hS => ?_)
  have hfb : ∀ k, k < 512 → u k = -1 := hw
  obtain ⟨hP1, hK1, hD1⟩ := hB
  rw [ht] at hP1
  have hK1 := va_K.moved hvm.symm hK1
  obtain ⟨hP, hD⟩ := va_join (wr := [(h0, .inr (7, ft)), (ql, .inl (cl, 6400, .inl g)), (qf, .inl (cf, 3150, .inl fF)), (qn, .inl (cn, 3150, .inl fN))]) (w1 := [(qb, .inl (cb, 512, .inl u))]) hP hD [4] [0, 1, 2, 3] rfl rfl (by decide) (by decide) hk1 hFc hP1 hD1
  have hK := (hK.sub (tys' := [(cl, .byte), (cf, .int), (cn, .int)]) [0, 1, 2] rfl).app hK1
  clear hPc hDc hKc hFc hP1 hK1 hD1 hk1 hz1
  generalize H1 = H at hP hS ⊢
  have hP : va_P (dC, dI) vwCl [(h0, .inr (7, ft)), (ql, .inl (cl, 6400, .inl g)), (qf, .inl (cf, 3150, .inl fF)), (qn, .inl (cn, 3150, .inl fN)), (qb, .inl (cb, 512, .inl u))] H := hP
  have hD : va_D A [(h0, .inr (7, ft)), (ql, .inl (cl, 6400, .inl g)), (qf, .inl (cf, 3150, .inl fF)), (qn, .inl (cn, 3150, .inl fN)), (qb, .inl (cb, 512, .inl u))] := hD
  have hK : va_K (dC, dI) vwCl [(cl, .byte), (cf, .int), (cn, .int), (cb, .int)] s := hK
  refine lv_aload_n hx hb dX7_forgetNames_8 rfl (lv_at hl 0 rfl) ?_
  refine lv_iconst (v := 0) hx hb dX7_forgetNames_9 (by decide) ?_
  refine kq_put [(18, .int 0), (14, .ref ql), (15, .ref qf), (16, .ref qn), (17, .ref qb), (2, .ref qk), (3, .ref qv), (4, .ref qi), (5, .ref qs), (1, .int 0)] hts iX7 tyX7 tyX7_ok nmX7 hx hb hown hK hP hD hS 0 rfl rfl hT 18 (by decide) (by decide) (hts _ (bP 476 rfl)) rfl (ty := .int) (by decide +kernel) (v := .int 0) rfl rfl dX7_forgetNames_10 (fun f h => kJ_put h _ _ (by decide)) (fun H locs ft hT hP hD hS => ?_)
  have hP : va_P (dC, dI) vwCl [(h0, .inr (7, ft)), (ql, .inl (cl, 6400, .inl g)), (qf, .inl (cf, 3150, .inl fF)), (qn, .inl (cn, 3150, .inl fN)), (qb, .inl (cb, 512, .inl u))] H := hP
  have hD : va_D A [(h0, .inr (7, ft)), (ql, .inl (cl, 6400, .inl g)), (qf, .inl (cf, 3150, .inl fF)), (qn, .inl (cn, 3150, .inl fN)), (qb, .inl (cb, 512, .inl u))] := hD
  refine lv_aload_n hx hb dX7_forgetNames_13 rfl (lv_at hl 0 rfl) ?_
  refine va_get (D := (dC, dI)) (ci := 7) (v := .ref qf) (C := RX7) (T := TX7) (N := 19) hx hb hts iX7 hown hK hP 0 rfl rfl 15 (by decide) (hts _ (bP 301 rfl)) (fun _ h9 => h9) (kJ_at hT 2 rfl) dX7_forgetNames_14 ?_
  refine lv_iconst (v := 0) hx hb dX7_forgetNames_17 (by decide) ?_
  refine lv_iconst (v := 0) hx hb dX7_forgetNames_18 (by decide) ?_
  refine kq_iast hx hb hK hP hD hS 2 1 rfl rfl (by unfold vp_in; decide) dX7_forgetNames_19 (fun H locs fF1 efF1 hP hD hS => ?_)
  have hP : va_P (dC, dI) vwCl [(h0, .inr (7, ft)), (ql, .inl (cl, 6400, .inl g)), (qf, .inl (cf, 3150, .inl fF1)), (qn, .inl (cn, 3150, .inl fN)), (qb, .inl (cb, 512, .inl u))] H := hP
  have hD : va_D A [(h0, .inr (7, ft)), (ql, .inl (cl, 6400, .inl g)), (qf, .inl (cf, 3150, .inl fF1)), (qn, .inl (cn, 3150, .inl fN)), (qb, .inl (cb, 512, .inl u))] := hD
  refine lv_aload_n hx hb dX7_forgetNames_20 rfl (lv_at hl 0 rfl) ?_
  refine va_ldcS hx hb hown hR1 dX7_forgetNames_21 ?_
  have hK4 : kD 0 fF1 fN u := k_D0 efF1 hfb
  have hT : kJ 19 [(18, .int (nI 0)), (14, .ref ql), (15, .ref qf), (16, .ref qn), (17, .ref qb), (2, .ref qk), (3, .ref qv), (4, .ref qi), (5, .ref qs), (1, .int 0)] ft := kJ_sub hT (by simp [nI_0])
  have hPc := hP.sub (ws' := [(h0, .inr (7, ft)), (ql, .inl (cl, 6400, .inl g)), (qf, .inl (cf, 3150, .inl fF1)), (qn, .inl (cn, 3150, .inl fN)), (qb, .inl (cb, 512, .inl u))]) [0, 1, 2, 3, 4] rfl
  have hDc := hD.sub (ws' := [(h0, .inr (7, ft)), (ql, .inl (cl, 6400, .inl g)), (qf, .inl (cf, 3150, .inl fF1)), (qn, .inl (cn, 3150, .inl fN)), (qb, .inl (cb, 512, .inl u))]) [0, 1, 2, 3, 4] (by decide) rfl
  have hKc := hK.sub (tys' := [(cl, .byte), (cf, .int), (cn, .int), (cb, .int)]) [0, 1, 2, 3] rfl
  have hFc := va_free (wc := [(h0, .inr (7, ft)), (ql, .inl (cl, 6400, .inl g)), (qf, .inl (cf, 3150, .inl fF1)), (qn, .inl (cn, 3150, .inl fN)), (qb, .inl (cb, 512, .inl u))]) hD hS hA [0, 1, 2, 3, 4] rfl
  refine va_callv (va_runV (As := [.ref s1]) (rest := []) ⟨hx, hb, hml, hown, hts⟩ (c_Text_learn l dC dI h0 H.size ft ql qf qn qb qk qv qi qs cl cf cn cb g fF1 fN u 0 s1 v1 l1 f1) (cwV 1 hts (gV (y := yX7_learn) _ 498 499 500 343 481 rfl rfl rfl rfl rfl) rfl rfl rfl (by decide +kernel) ⟨Nat.le_of_ble_eq_true rfl, Nat.le_of_ble_eq_true rfl⟩) ⟨fun a U g mk q => by obtain ⟨q0, q1, qJ, q3, q4, qP, qK, qD, qQ, qE⟩ := q; exact ⟨q0, q1, qJ, q3, q4, qP, va_K.moved (u := U) (U := U.calling g mk a) (Vm.Alike.refl U.vm) qK, qD, kS.moved (u := U) (U := U.calling g mk a) (Vm.Alike.refl U.vm) qQ, kE.moved (u := U) (U := U.calling g mk a) (Vm.Alike.refl U.vm) qE⟩, va_recv hKc hPc (ci := 7) (q0 := 0) rfl rfl, fun U hU hW => ⟨rfl, by rw [hU], hT, hl1, hK4, by rw [hU]; exact hPc, va_K.moved hW.alike hKc, hDc.weaken (fun _ _ _ _ => trivial), by rw [hU]; exact kS.moved hW.alike ((hQ1.kept hS.2.1).narrow hFc), by rw [hU]; exact kE.moved hW.alike ((hE.kept hS.2.1).narrow hFc)⟩⟩ rfl rfl hl.1 rfl (lv_room (Nat.le_of_ble_eq_true rfl)) dX7_forgetNames_23 ⟨Nat.le_of_ble_eq_true rfl, Nat.le_of_ble_eq_true rfl⟩) hS (fun q _ h => hFc q h) hFc (fun u t H1 locs ht hvm hw hB hz1 hk1 hS => ?_)
  obtain ⟨N, ft, g, fF, fN, fB⟩ := u
  obtain ⟨hT, hK4⟩ := hw
  obtain ⟨hP1, hK1, hD1⟩ := hB
  rw [ht] at hP1
  have hK1 := va_K.moved hvm.symm hK1
  obtain ⟨hP, hD⟩ := va_join (wr := []) (w1 := [(h0, .inr (7, ft)), (ql, .inl (cl, 6400, .inl g)), (qf, .inl (cf, 3150, .inl fF)), (qn, .inl (cn, 3150, .inl fN)), (qb, .inl (cb, 512, .inl fB))]) hP hD [0, 1, 2, 3, 4] [] rfl rfl (by decide) (by decide) hk1 hFc hP1 hD1
  have hK := (hK.sub (tys' := []) [] rfl).app hK1
  clear hPc hDc hKc hFc hP1 hK1 hD1 hk1 hz1
  generalize H1 = H at hP hS ⊢
  have hP : va_P (dC, dI) vwCl [(h0, .inr (7, ft)), (ql, .inl (cl, 6400, .inl g)), (qf, .inl (cf, 3150, .inl fF)), (qn, .inl (cn, 3150, .inl fN)), (qb, .inl (cb, 512, .inl fB))] H := hP
  have hD : va_D A [(h0, .inr (7, ft)), (ql, .inl (cl, 6400, .inl g)), (qf, .inl (cf, 3150, .inl fF)), (qn, .inl (cn, 3150, .inl fN)), (qb, .inl (cb, 512, .inl fB))] := hD
  have hK : va_K (dC, dI) vwCl [(cl, .byte), (cf, .int), (cn, .int), (cb, .int)] s := hK
  refine lv_aload_n hx hb dX7_forgetNames_26 rfl (lv_at hl 0 rfl) ?_
  refine va_ldcS hx hb hown hR2 dX7_forgetNames_27 ?_
  have hPc := hP.sub (ws' := [(h0, .inr (7, ft)), (ql, .inl (cl, 6400, .inl g)), (qf, .inl (cf, 3150, .inl fF)), (qn, .inl (cn, 3150, .inl fN)), (qb, .inl (cb, 512, .inl fB))]) [0, 1, 2, 3, 4] rfl
  have hDc := hD.sub (ws' := [(h0, .inr (7, ft)), (ql, .inl (cl, 6400, .inl g)), (qf, .inl (cf, 3150, .inl fF)), (qn, .inl (cn, 3150, .inl fN)), (qb, .inl (cb, 512, .inl fB))]) [0, 1, 2, 3, 4] (by decide) rfl
  have hKc := hK.sub (tys' := [(cl, .byte), (cf, .int), (cn, .int), (cb, .int)]) [0, 1, 2, 3] rfl
  have hFc := va_free (wc := [(h0, .inr (7, ft)), (ql, .inl (cl, 6400, .inl g)), (qf, .inl (cf, 3150, .inl fF)), (qn, .inl (cn, 3150, .inl fN)), (qb, .inl (cb, 512, .inl fB))]) hD hS hA [0, 1, 2, 3, 4] rfl
  refine va_callv (va_runV (As := [.ref s2]) (rest := []) ⟨hx, hb, hml, hown, hts⟩ (c_Text_learn l dC dI h0 H.size ft ql qf qn qb qk qv qi qs cl cf cn cb g fF fN fB N s2 v2 l2 f2) (cwV 1 hts (gV (y := yX7_learn) _ 498 499 500 343 481 rfl rfl rfl rfl rfl) rfl rfl rfl (by decide +kernel) ⟨Nat.le_of_ble_eq_true rfl, Nat.le_of_ble_eq_true rfl⟩) ⟨fun a U g mk q => by obtain ⟨q0, q1, qJ, q3, q4, qP, qK, qD, qQ, qE⟩ := q; exact ⟨q0, q1, qJ, q3, q4, qP, va_K.moved (u := U) (U := U.calling g mk a) (Vm.Alike.refl U.vm) qK, qD, kS.moved (u := U) (U := U.calling g mk a) (Vm.Alike.refl U.vm) qQ, kE.moved (u := U) (U := U.calling g mk a) (Vm.Alike.refl U.vm) qE⟩, va_recv hKc hPc (ci := 7) (q0 := 0) rfl rfl, fun U hU hW => ⟨rfl, by rw [hU], hT, hl2, hK4, by rw [hU]; exact hPc, va_K.moved hW.alike hKc, hDc.weaken (fun _ _ _ _ => trivial), by rw [hU]; exact kS.moved hW.alike ((hQ2.kept hS.2.1).narrow hFc), by rw [hU]; exact kE.moved hW.alike ((hE.kept hS.2.1).narrow hFc)⟩⟩ rfl rfl hl.1 rfl (lv_room (Nat.le_of_ble_eq_true rfl)) dX7_forgetNames_29 ⟨Nat.le_of_ble_eq_true rfl, Nat.le_of_ble_eq_true rfl⟩) hS (fun q _ h => hFc q h) hFc (fun u t H1 locs ht hvm hw hB hz1 hk1 hS => ?_)
  obtain ⟨N, ft, g, fF, fN, fB⟩ := u
  obtain ⟨hT, hK4⟩ := hw
  obtain ⟨hP1, hK1, hD1⟩ := hB
  rw [ht] at hP1
  have hK1 := va_K.moved hvm.symm hK1
  obtain ⟨hP, hD⟩ := va_join (wr := []) (w1 := [(h0, .inr (7, ft)), (ql, .inl (cl, 6400, .inl g)), (qf, .inl (cf, 3150, .inl fF)), (qn, .inl (cn, 3150, .inl fN)), (qb, .inl (cb, 512, .inl fB))]) hP hD [0, 1, 2, 3, 4] [] rfl rfl (by decide) (by decide) hk1 hFc hP1 hD1
  have hK := (hK.sub (tys' := []) [] rfl).app hK1
  clear hPc hDc hKc hFc hP1 hK1 hD1 hk1 hz1
  generalize H1 = H at hP hS ⊢
  have hP : va_P (dC, dI) vwCl [(h0, .inr (7, ft)), (ql, .inl (cl, 6400, .inl g)), (qf, .inl (cf, 3150, .inl fF)), (qn, .inl (cn, 3150, .inl fN)), (qb, .inl (cb, 512, .inl fB))] H := hP
  have hD : va_D A [(h0, .inr (7, ft)), (ql, .inl (cl, 6400, .inl g)), (qf, .inl (cf, 3150, .inl fF)), (qn, .inl (cn, 3150, .inl fN)), (qb, .inl (cb, 512, .inl fB))] := hD
  have hK : va_K (dC, dI) vwCl [(cl, .byte), (cf, .int), (cn, .int), (cb, .int)] s := hK
  refine lv_aload_n hx hb dX7_forgetNames_32 rfl (lv_at hl 0 rfl) ?_
  refine va_ldcS hx hb hown hR3 dX7_forgetNames_33 ?_
  have hPc := hP.sub (ws' := [(h0, .inr (7, ft)), (ql, .inl (cl, 6400, .inl g)), (qf, .inl (cf, 3150, .inl fF)), (qn, .inl (cn, 3150, .inl fN)), (qb, .inl (cb, 512, .inl fB))]) [0, 1, 2, 3, 4] rfl
  have hDc := hD.sub (ws' := [(h0, .inr (7, ft)), (ql, .inl (cl, 6400, .inl g)), (qf, .inl (cf, 3150, .inl fF)), (qn, .inl (cn, 3150, .inl fN)), (qb, .inl (cb, 512, .inl fB))]) [0, 1, 2, 3, 4] (by decide) rfl
  have hKc := hK.sub (tys' := [(cl, .byte), (cf, .int), (cn, .int), (cb, .int)]) [0, 1, 2, 3] rfl
  have hFc := va_free (wc := [(h0, .inr (7, ft)), (ql, .inl (cl, 6400, .inl g)), (qf, .inl (cf, 3150, .inl fF)), (qn, .inl (cn, 3150, .inl fN)), (qb, .inl (cb, 512, .inl fB))]) hD hS hA [0, 1, 2, 3, 4] rfl
  refine va_callv (va_runV (As := [.ref s3]) (rest := []) ⟨hx, hb, hml, hown, hts⟩ (c_Text_learn l dC dI h0 H.size ft ql qf qn qb qk qv qi qs cl cf cn cb g fF fN fB N s3 v3 l3 f3) (cwV 1 hts (gV (y := yX7_learn) _ 498 499 500 343 481 rfl rfl rfl rfl rfl) rfl rfl rfl (by decide +kernel) ⟨Nat.le_of_ble_eq_true rfl, Nat.le_of_ble_eq_true rfl⟩) ⟨fun a U g mk q => by obtain ⟨q0, q1, qJ, q3, q4, qP, qK, qD, qQ, qE⟩ := q; exact ⟨q0, q1, qJ, q3, q4, qP, va_K.moved (u := U) (U := U.calling g mk a) (Vm.Alike.refl U.vm) qK, qD, kS.moved (u := U) (U := U.calling g mk a) (Vm.Alike.refl U.vm) qQ, kE.moved (u := U) (U := U.calling g mk a) (Vm.Alike.refl U.vm) qE⟩, va_recv hKc hPc (ci := 7) (q0 := 0) rfl rfl, fun U hU hW => ⟨rfl, by rw [hU], hT, hl3, hK4, by rw [hU]; exact hPc, va_K.moved hW.alike hKc, hDc.weaken (fun _ _ _ _ => trivial), by rw [hU]; exact kS.moved hW.alike ((hQ3.kept hS.2.1).narrow hFc), by rw [hU]; exact kE.moved hW.alike ((hE.kept hS.2.1).narrow hFc)⟩⟩ rfl rfl hl.1 rfl (lv_room (Nat.le_of_ble_eq_true rfl)) dX7_forgetNames_35 ⟨Nat.le_of_ble_eq_true rfl, Nat.le_of_ble_eq_true rfl⟩) hS (fun q _ h => hFc q h) hFc (fun u t H1 locs ht hvm hw hB hz1 hk1 hS => ?_)
  obtain ⟨N, ft, g, fF, fN, fB⟩ := u
  obtain ⟨hT, hK4⟩ := hw
  obtain ⟨hP1, hK1, hD1⟩ := hB
  rw [ht] at hP1
  have hK1 := va_K.moved hvm.symm hK1
  obtain ⟨hP, hD⟩ := va_join (wr := []) (w1 := [(h0, .inr (7, ft)), (ql, .inl (cl, 6400, .inl g)), (qf, .inl (cf, 3150, .inl fF)), (qn, .inl (cn, 3150, .inl fN)), (qb, .inl (cb, 512, .inl fB))]) hP hD [0, 1, 2, 3, 4] [] rfl rfl (by decide) (by decide) hk1 hFc hP1 hD1
  have hK := (hK.sub (tys' := []) [] rfl).app hK1
  clear hPc hDc hKc hFc hP1 hK1 hD1 hk1 hz1
  generalize H1 = H at hP hS ⊢
  have hP : va_P (dC, dI) vwCl [(h0, .inr (7, ft)), (ql, .inl (cl, 6400, .inl g)), (qf, .inl (cf, 3150, .inl fF)), (qn, .inl (cn, 3150, .inl fN)), (qb, .inl (cb, 512, .inl fB))] H := hP
  have hD : va_D A [(h0, .inr (7, ft)), (ql, .inl (cl, 6400, .inl g)), (qf, .inl (cf, 3150, .inl fF)), (qn, .inl (cn, 3150, .inl fN)), (qb, .inl (cb, 512, .inl fB))] := hD
  have hK : va_K (dC, dI) vwCl [(cl, .byte), (cf, .int), (cn, .int), (cb, .int)] s := hK
  exact W.vret hx hb hr (fun t ht hW => ⟨⟨(N, ft, g, fF, fN, fB), rfl, ⟨hT, hK4⟩, by rw [ht]; exact hP, va_K.moved hW.alike hK, hD⟩, hS.F ht⟩) hS.2.2 dX7_forgetNames_38

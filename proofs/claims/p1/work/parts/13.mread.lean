/-! read of the reference on an empty tape -/
theorem dX13_token_0 : decode cX13_token 0 = .ok (.aload_n 0, 1) := by decide +kernel
theorem dX13_token_1 : decode cX13_token 1 = .ok (.getfield 157, 3) := by decide +kernel
theorem dX13_token_4 : decode cX13_token 4 = .ok (.aload_n 0, 1) := by decide +kernel
theorem dX13_token_5 : decode cX13_token 5 = .ok (.getfield 472, 3) := by decide +kernel
theorem dX13_token_8 : decode cX13_token 8 = .ok (.iload_n 1, 1) := by decide +kernel
theorem dX13_token_9 : decode cX13_token 9 = .ok (.iastore, 1) := by decide +kernel
theorem dX13_token_10 : decode cX13_token 10 = .ok (.aload_n 0, 1) := by decide +kernel
theorem dX13_token_11 : decode cX13_token 11 = .ok (.getfield 160, 3) := by decide +kernel
theorem dX13_token_14 : decode cX13_token 14 = .ok (.aload_n 0, 1) := by decide +kernel
theorem dX13_token_15 : decode cX13_token 15 = .ok (.getfield 472, 3) := by decide +kernel
theorem dX13_token_18 : decode cX13_token 18 = .ok (.iload_n 2, 1) := by decide +kernel
theorem dX13_token_19 : decode cX13_token 19 = .ok (.iastore, 1) := by decide +kernel
theorem dX13_token_20 : decode cX13_token 20 = .ok (.aload_n 0, 1) := by decide +kernel
theorem dX13_token_21 : decode cX13_token 21 = .ok (.getfield 163, 3) := by decide +kernel
theorem dX13_token_24 : decode cX13_token 24 = .ok (.aload_n 0, 1) := by decide +kernel
theorem dX13_token_25 : decode cX13_token 25 = .ok (.getfield 472, 3) := by decide +kernel
theorem dX13_token_28 : decode cX13_token 28 = .ok (.iload_n 3, 1) := by decide +kernel
theorem dX13_token_29 : decode cX13_token 29 = .ok (.iastore, 1) := by decide +kernel
theorem dX13_token_30 : decode cX13_token 30 = .ok (.aload_n 0, 1) := by decide +kernel
theorem dX13_token_31 : decode cX13_token 31 = .ok (.getfield 166, 3) := by decide +kernel
theorem dX13_token_34 : decode cX13_token 34 = .ok (.aload_n 0, 1) := by decide +kernel
theorem dX13_token_35 : decode cX13_token 35 = .ok (.getfield 472, 3) := by decide +kernel
theorem dX13_token_38 : decode cX13_token 38 = .ok (.iload 4, 2) := by decide +kernel
theorem dX13_token_40 : decode cX13_token 40 = .ok (.iastore, 1) := by decide +kernel
theorem dX13_token_41 : decode cX13_token 41 = .ok (.aload_n 0, 1) := by decide +kernel
theorem dX13_token_42 : decode cX13_token 42 = .ok (.dup, 1) := by decide +kernel
theorem dX13_token_43 : decode cX13_token 43 = .ok (.getfield 472, 3) := by decide +kernel
theorem dX13_token_46 : decode cX13_token 46 = .ok (.iconst 1, 1) := by decide +kernel
theorem dX13_token_47 : decode cX13_token 47 = .ok (.iadd, 1) := by decide +kernel
theorem dX13_token_48 : decode cX13_token 48 = .ok (.putfield 472, 3) := by decide +kernel
theorem dX13_token_51 : decode cX13_token 51 = .ok (.return_, 1) := by decide +kernel
theorem dX13_scanAll_0 : decode cX13_scanAll 0 = .ok (.aload_n 0, 1) := by decide +kernel
theorem dX13_scanAll_1 : decode cX13_scanAll 1 = .ok (.iconst 0, 1) := by decide +kernel
theorem dX13_scanAll_2 : decode cX13_scanAll 2 = .ok (.putfield 472, 3) := by decide +kernel
theorem dX13_scanAll_5 : decode cX13_scanAll 5 = .ok (.aload_n 0, 1) := by decide +kernel
theorem dX13_scanAll_6 : decode cX13_scanAll 6 = .ok (.iconst 0, 1) := by decide +kernel
theorem dX13_scanAll_7 : decode cX13_scanAll 7 = .ok (.putfield 475, 3) := by decide +kernel
theorem dX13_scanAll_10 : decode cX13_scanAll 10 = .ok (.aload_n 0, 1) := by decide +kernel
theorem dX13_scanAll_11 : decode cX13_scanAll 11 = .ok (.iconst 0, 1) := by decide +kernel
theorem dX13_scanAll_12 : decode cX13_scanAll 12 = .ok (.putfield 478, 3) := by decide +kernel
theorem dX13_scanAll_15 : decode cX13_scanAll 15 = .ok (.aload_n 0, 1) := by decide +kernel
theorem dX13_scanAll_16 : decode cX13_scanAll 16 = .ok (.iconst 0, 1) := by decide +kernel
theorem dX13_scanAll_17 : decode cX13_scanAll 17 = .ok (.putfield 525, 3) := by decide +kernel
theorem dX13_scanAll_20 : decode cX13_scanAll 20 = .ok (.aload_n 0, 1) := by decide +kernel
theorem dX13_scanAll_21 : decode cX13_scanAll 21 = .ok (.iconst 0, 1) := by decide +kernel
theorem dX13_scanAll_22 : decode cX13_scanAll 22 = .ok (.putfield 528, 3) := by decide +kernel
theorem dX13_scanAll_25 : decode cX13_scanAll 25 = .ok (.aload_n 0, 1) := by decide +kernel
theorem dX13_scanAll_26 : decode cX13_scanAll 26 = .ok (.iconst 0, 1) := by decide +kernel
theorem dX13_scanAll_27 : decode cX13_scanAll 27 = .ok (.putfield 531, 3) := by decide +kernel
theorem dX13_scanAll_30 : decode cX13_scanAll 30 = .ok (.aload_n 0, 1) := by decide +kernel
theorem dX13_scanAll_31 : decode cX13_scanAll 31 = .ok (.iconst 0, 1) := by decide +kernel
theorem dX13_scanAll_32 : decode cX13_scanAll 32 = .ok (.putfield 534, 3) := by decide +kernel
theorem dX13_scanAll_35 : decode cX13_scanAll 35 = .ok (.aload_n 0, 1) := by decide +kernel
theorem dX13_scanAll_36 : decode cX13_scanAll 36 = .ok (.iconst 0, 1) := by decide +kernel
theorem dX13_scanAll_37 : decode cX13_scanAll 37 = .ok (.putfield 462, 3) := by decide +kernel
theorem dX13_scanAll_40 : decode cX13_scanAll 40 = .ok (.iconst 1, 1) := by decide +kernel
theorem dX13_scanAll_41 : decode cX13_scanAll 41 = .ok (.istore_n 1, 1) := by decide +kernel
theorem dX13_scanAll_42 : decode cX13_scanAll 42 = .ok (.iconst 1, 1) := by decide +kernel
theorem dX13_scanAll_43 : decode cX13_scanAll 43 = .ok (.istore_n 2, 1) := by decide +kernel
theorem dX13_scanAll_44 : decode cX13_scanAll 44 = .ok (.aload_n 0, 1) := by decide +kernel
theorem dX13_scanAll_45 : decode cX13_scanAll 45 = .ok (.getfield 462, 3) := by decide +kernel
theorem dX13_scanAll_48 : decode cX13_scanAll 48 = .ok (.aload_n 0, 1) := by decide +kernel
theorem dX13_scanAll_49 : decode cX13_scanAll 49 = .ok (.getfield 455, 3) := by decide +kernel
theorem dX13_scanAll_52 : decode cX13_scanAll 52 = .ok (.if_icmp .ge 295, 3) := by decide +kernel
theorem dX13_scanAll_347 : decode cX13_scanAll 347 = .ok (.aload_n 0, 1) := by decide +kernel
theorem dX13_scanAll_348 : decode cX13_scanAll 348 = .ok (.bipush 75, 2) := by decide +kernel
theorem dX13_scanAll_350 : decode cX13_scanAll 350 = .ok (.iconst 0, 1) := by decide +kernel
theorem dX13_scanAll_351 : decode cX13_scanAll 351 = .ok (.iload_n 1, 1) := by decide +kernel
theorem dX13_scanAll_352 : decode cX13_scanAll 352 = .ok (.iconst (-1), 1) := by decide +kernel
theorem dX13_scanAll_353 : decode cX13_scanAll 353 = .ok (.invokevirtual 540, 3) := by decide +kernel
theorem dX13_scanAll_356 : decode cX13_scanAll 356 = .ok (.return_, 1) := by decide +kernel
theorem dX13_stop_0 : decode cX13_stop 0 = .ok (.aload_n 0, 1) := by decide +kernel
theorem dX13_stop_1 : decode cX13_stop 1 = .ok (.getfield 157, 3) := by decide +kernel
theorem dX13_stop_4 : decode cX13_stop 4 = .ok (.aload_n 0, 1) := by decide +kernel
theorem dX13_stop_5 : decode cX13_stop 5 = .ok (.getfield 547, 3) := by decide +kernel
theorem dX13_stop_8 : decode cX13_stop 8 = .ok (.iaload, 1) := by decide +kernel
theorem dX13_stop_9 : decode cX13_stop 9 = .ok (.bipush 76, 2) := by decide +kernel
theorem dX13_stop_11 : decode cX13_stop 11 = .ok (.if_icmp .ne 7, 3) := by decide +kernel
theorem dX13_stop_18 : decode cX13_stop 18 = .ok (.iconst 0, 1) := by decide +kernel
theorem dX13_stop_19 : decode cX13_stop 19 = .ok (.istore_n 2, 1) := by decide +kernel
theorem dX13_stop_20 : decode cX13_stop 20 = .ok (.aload_n 0, 1) := by decide +kernel
theorem dX13_stop_21 : decode cX13_stop 21 = .ok (.iload_n 2, 1) := by decide +kernel
theorem dX13_stop_22 : decode cX13_stop 22 = .ok (.ifCond .eq 7, 3) := by decide +kernel
theorem dX13_stop_29 : decode cX13_stop 29 = .ok (.iload_n 1, 1) := by decide +kernel
theorem dX13_stop_30 : decode cX13_stop 30 = .ok (.putfield 550, 3) := by decide +kernel
theorem dX13_stop_33 : decode cX13_stop 33 = .ok (.aload_n 0, 1) := by decide +kernel
theorem dX13_stop_34 : decode cX13_stop 34 = .ok (.aload_n 0, 1) := by decide +kernel
theorem dX13_stop_35 : decode cX13_stop 35 = .ok (.getfield 163, 3) := by decide +kernel
theorem dX13_stop_38 : decode cX13_stop 38 = .ok (.aload_n 0, 1) := by decide +kernel
theorem dX13_stop_39 : decode cX13_stop 39 = .ok (.getfield 547, 3) := by decide +kernel
theorem dX13_stop_42 : decode cX13_stop 42 = .ok (.iaload, 1) := by decide +kernel
theorem dX13_stop_43 : decode cX13_stop 43 = .ok (.putfield 553, 3) := by decide +kernel
theorem dX13_stop_46 : decode cX13_stop 46 = .ok (.aload_n 0, 1) := by decide +kernel
theorem dX13_stop_47 : decode cX13_stop 47 = .ok (.getfield 10, 3) := by decide +kernel
theorem dX13_stop_50 : decode cX13_stop 50 = .ok (.areturn, 1) := by decide +kernel
theorem dX13_look_0 : decode cX13_look 0 = .ok (.aload_n 0, 1) := by decide +kernel
theorem dX13_look_1 : decode cX13_look 1 = .ok (.getfield 157, 3) := by decide +kernel
theorem dX13_look_4 : decode cX13_look 4 = .ok (.aload_n 0, 1) := by decide +kernel
theorem dX13_look_5 : decode cX13_look 5 = .ok (.getfield 547, 3) := by decide +kernel
theorem dX13_look_8 : decode cX13_look 8 = .ok (.iaload, 1) := by decide +kernel
theorem dX13_look_9 : decode cX13_look 9 = .ok (.ireturn, 1) := by decide +kernel
theorem dX13_isAt_0 : decode cX13_isAt 0 = .ok (.aload_n 0, 1) := by decide +kernel
theorem dX13_isAt_1 : decode cX13_isAt 1 = .ok (.invokevirtual 560, 3) := by decide +kernel
theorem dX13_isAt_4 : decode cX13_isAt 4 = .ok (.bipush 75, 2) := by decide +kernel
theorem dX13_isAt_6 : decode cX13_isAt 6 = .ok (.if_icmp .eq 22, 3) := by decide +kernel
theorem dX13_isAt_28 : decode cX13_isAt 28 = .ok (.iconst 0, 1) := by decide +kernel
theorem dX13_isAt_29 : decode cX13_isAt 29 = .ok (.ireturn, 1) := by decide +kernel
theorem dX13_lineAt_0 : decode cX13_lineAt 0 = .ok (.aload_n 0, 1) := by decide +kernel
theorem dX13_lineAt_1 : decode cX13_lineAt 1 = .ok (.iload_n 1, 1) := by decide +kernel
theorem dX13_lineAt_2 : decode cX13_lineAt 2 = .ok (.invokevirtual 578, 3) := by decide +kernel
theorem dX13_lineAt_5 : decode cX13_lineAt 5 = .ok (.ifCond .eq 14, 3) := by decide +kernel
theorem dX13_lineAt_19 : decode cX13_lineAt 19 = .ok (.aload_n 0, 1) := by decide +kernel
theorem dX13_lineAt_20 : decode cX13_lineAt 20 = .ok (.iconst 2, 1) := by decide +kernel
theorem dX13_lineAt_21 : decode cX13_lineAt 21 = .ok (.invokevirtual 556, 3) := by decide +kernel
theorem dX13_lineAt_24 : decode cX13_lineAt 24 = .ok (.athrow, 1) := by decide +kernel
theorem dX13_process_0 : decode cX13_process 0 = .ok (.aload_n 0, 1) := by decide +kernel
theorem dX13_process_1 : decode cX13_process 1 = .ok (.iload_n 1, 1) := by decide +kernel
theorem dX13_process_2 : decode cX13_process 2 = .ok (.iconst 0, 1) := by decide +kernel
theorem dX13_process_3 : decode cX13_process 3 = .ok (.invokevirtual 588, 3) := by decide +kernel
theorem dX13_parses_0 : decode cX13_parses 0 = .ok (.aload_n 0, 1) := by decide +kernel
theorem dX13_parses_1 : decode cX13_parses 1 = .ok (.iconst 0, 1) := by decide +kernel
theorem dX13_parses_2 : decode cX13_parses 2 = .ok (.putfield 544, 3) := by decide +kernel
theorem dX13_parses_5 : decode cX13_parses 5 = .ok (.aload_n 0, 1) := by decide +kernel
theorem dX13_parses_6 : decode cX13_parses 6 = .ok (.iconst 0, 1) := by decide +kernel
theorem dX13_parses_7 : decode cX13_parses 7 = .ok (.putfield 547, 3) := by decide +kernel
theorem dX13_parses_10 : decode cX13_parses 10 = .ok (.aload_n 0, 1) := by decide +kernel
theorem dX13_parses_11 : decode cX13_parses 11 = .ok (.iconst 0, 1) := by decide +kernel
theorem dX13_parses_12 : decode cX13_parses 12 = .ok (.putfield 669, 3) := by decide +kernel
theorem dX13_parses_15 : decode cX13_parses 15 = .ok (.aload_n 0, 1) := by decide +kernel
theorem dX13_parses_16 : decode cX13_parses 16 = .ok (.iconst 0, 1) := by decide +kernel
theorem dX13_parses_17 : decode cX13_parses 17 = .ok (.putfield 550, 3) := by decide +kernel
theorem dX13_parses_20 : decode cX13_parses 20 = .ok (.aload_n 0, 1) := by decide +kernel
theorem dX13_parses_21 : decode cX13_parses 21 = .ok (.aload_n 0, 1) := by decide +kernel
theorem dX13_parses_22 : decode cX13_parses 22 = .ok (.iconst 0, 1) := by decide +kernel
theorem dX13_parses_23 : decode cX13_parses 23 = .ok (.invokevirtual 604, 3) := by decide +kernel
theorem dX13_parses_46 : decode cX13_parses 46 = .ok (.astore_n 1, 1) := by decide +kernel
theorem dX13_parses_47 : decode cX13_parses 47 = .ok (.iconst 0, 1) := by decide +kernel
theorem dX13_parses_48 : decode cX13_parses 48 = .ok (.ireturn, 1) := by decide +kernel
theorem dX13_read_0 : decode cX13_read 0 = .ok (.aload_n 0, 1) := by decide +kernel
theorem dX13_read_1 : decode cX13_read 1 = .ok (.iconst 0, 1) := by decide +kernel
theorem dX13_read_2 : decode cX13_read 2 = .ok (.putfield 451, 3) := by decide +kernel
theorem dX13_read_5 : decode cX13_read 5 = .ok (.aload_n 0, 1) := by decide +kernel
theorem dX13_read_6 : decode cX13_read 6 = .ok (.invokevirtual 1116, 3) := by decide +kernel
theorem dX13_read_9 : decode cX13_read 9 = .ok (.aload_n 0, 1) := by decide +kernel
theorem dX13_read_10 : decode cX13_read 10 = .ok (.iconst 0, 1) := by decide +kernel
theorem dX13_read_11 : decode cX13_read 11 = .ok (.putfield 455, 3) := by decide +kernel
theorem dX13_read_14 : decode cX13_read 14 = .ok (.aload_n 0, 1) := by decide +kernel
theorem dX13_read_15 : decode cX13_read 15 = .ok (.iconst 0, 1) := by decide +kernel
theorem dX13_read_16 : decode cX13_read 16 = .ok (.putfield 1119, 3) := by decide +kernel
theorem dX13_read_19 : decode cX13_read 19 = .ok (.aload_n 0, 1) := by decide +kernel
theorem dX13_read_20 : decode cX13_read 20 = .ok (.iconst 0, 1) := by decide +kernel
theorem dX13_read_21 : decode cX13_read 21 = .ok (.putfield 1122, 3) := by decide +kernel
theorem dX13_read_24 : decode cX13_read 24 = .ok (.aload_n 0, 1) := by decide +kernel
theorem dX13_read_25 : decode cX13_read 25 = .ok (.invokevirtual 1125, 3) := by decide +kernel
theorem dX13_read_28 : decode cX13_read 28 = .ok (.ifCond .ne 16, 3) := by decide +kernel
theorem dX13_read_31 : decode cX13_read 31 = .ok (.aload_n 0, 1) := by decide +kernel
theorem dX13_read_32 : decode cX13_read 32 = .ok (.getfield 550, 3) := by decide +kernel
theorem dX13_read_35 : decode cX13_read 35 = .ok (.bipush 16, 2) := by decide +kernel
theorem dX13_read_37 : decode cX13_read 37 = .ok (.aload_n 0, 1) := by decide +kernel
theorem dX13_read_38 : decode cX13_read 38 = .ok (.getfield 553, 3) := by decide +kernel
theorem dX13_read_41 : decode cX13_read 41 = .ok (.imul, 1) := by decide +kernel
theorem dX13_read_42 : decode cX13_read 42 = .ok (.iadd, 1) := by decide +kernel
theorem dX13_read_43 : decode cX13_read 43 = .ok (.ireturn, 1) := by decide +kernel
set_option maxHeartbeats 4000000 in
set_option maxRecDepth 100000 in
/-- the first token -/
theorem c_M_token (l : Launch) (dC : Nat → ClassId) (dI : Nat → Nat → Nat) (h0 sz : Nat) (fs : List Value) (qh : Nat) (q7 : Nat) (q8 : Nat) (q9 : Nat) (q10 : Nat) (c7 : ClassId) (c8 : ClassId) (c9 : ClassId) (c10 : ClassId) (f7 : Nat → Int32) (f8 : Nat → Int32) (f9 : Nat → Int32) (f10 : Nat → Int32) (a1 : Int32) (a2 : Int32) (a3 : Int32) (a4 : Int32) : Met l yX13_token (.code yX13_token cX13_token 5 none :: wP) ({ frames := 0, cells := 0, slots := 0, locals := 0 }) (va_Pc [.ref h0, .int a1, .int a2, .int a3, .int a4] (fun U => U.heap.size = sz ∧ kJ 180 [(0, .ref qh), (7, .ref q7), (8, .ref q8), (9, .ref q9), (10, .ref q10), (6, .int 0)] fs ∧ va_P (dC, dI) vwCl [(h0, .inr (13, fs)), (q7, .inl (c7, 12002, .inl f7)), (q8, .inl (c8, 12002, .inl f8)), (q9, .inl (c9, 12002, .inl f9)), (q10, .inl (c10, 12002, .inl f10))] U.heap ∧ va_K (dC, dI) vwCl [(c7, .int), (c8, .int), (c9, .int), (c10, .int)] U ∧ va_D (fun _ => True) [(h0, .inr (13, fs)), (q7, .inl (c7, 12002, .inl f7)), (q8, .inl (c8, 12002, .inl f8)), (q9, .inl (c9, 12002, .inl f9)), (q10, .inl (c10, 12002, .inl f10))])) (va_Qv (fun u : (List Value × (Nat → Int32) × (Nat → Int32) × (Nat → Int32) × (Nat → Int32)) => match u with | (fs, f7, f8, f9, f10) => kJ 180 [(6, .int 1), (0, .ref qh), (7, .ref q7), (8, .ref q8), (9, .ref q9), (10, .ref q10)] fs ∧ f7 0 = a1 ∧ f9 0 = a3) (fun (u : (List Value × (Nat → Int32) × (Nat → Int32) × (Nat → Int32) × (Nat → Int32))) (t : State) => match u with | (gs, g7, g8, g9, g10) => va_P (dC, dI) vwCl [(h0, .inr (13, gs)), (q7, .inl (c7, 12002, .inl g7)), (q8, .inl (c8, 12002, .inl g8)), (q9, .inl (c9, 12002, .inl g9)), (q10, .inl (c10, 12002, .inl g10))] t.heap ∧ va_K (dC, dI) vwCl [(c7, .int), (c8, .int), (c9, .int), (c10, .int)] t ∧ va_D (va_A [(h0, .inr (13, fs)), (q7, .inl (c7, 12002, .inl f7)), (q8, .inl (c8, 12002, .inl f8)), (q9, .inl (c9, 12002, .inl f9)), (q10, .inl (c10, 12002, .inl f10))] sz) [(h0, .inr (13, gs)), (q7, .inl (c7, 12002, .inl g7)), (q8, .inl (c8, 12002, .inl g8)), (q9, .inl (c9, 12002, .inl g9)), (q10, .inl (c10, 12002, .inl g10))]) (va_A [(h0, .inr (13, fs)), (q7, .inl (c7, 12002, .inl f7)), (q8, .inl (c8, 12002, .inl f8)), (q9, .inl (c9, 12002, .inl f9)), (q10, .inl (c10, 12002, .inl f10))] sz)) 0 0 (va_A [(h0, .inr (13, fs)), (q7, .inl (c7, 12002, .inl f7)), (q8, .inl (c8, 12002, .inl f8)), (q9, .inl (c9, 12002, .inl f9)), (q10, .inl (c10, 12002, .inl f10))] sz) := by
  refine Met.ofW (cc := cX13_token) (maxL := 5) (ret := none) (by decide) rfl ?_
  intro p e s m args below meth c s₁ B hml hv
  obtain ⟨rfl, hsz, hJ, hP, hK, hD0⟩ := hv
  have hx := B.exec
  have hb := B.bytes
  have hr := B.returns
  have hts := atoms_spec (ws := .code yX13_token cX13_token 5 none :: wP) B.pre
  have hown : s.vm.findClass RX13 = some m.cls := findClass_of_methodNamed B.named
  subst hsz
  have hD := hD0.self (sz := s.heap.size)
  generalize hAe : va_A [(h0, .inr (13, fs)), (q7, .inl (c7, 12002, .inl f7)), (q8, .inl (c8, 12002, .inl f8)), (q9, .inl (c9, 12002, .inl f9)), (q10, .inl (c10, 12002, .inl f10))] s.heap.size = A at hD ⊢
  have hA : ∀ q : Nat, s.heap.size ≤ q → A q := fun q h => by rw [← hAe]; exact Or.inr h
  have hS : va_S A s.heap s.heap [] := va_S.rf
  have hl := lv_entry ([.ref h0, .int a1, .int a2, .int a3, .int a4]) (n := 5) (Nat.le_of_ble_eq_true rfl)
  rw [lg_entry_eq]
  generalize (lg_sl ([.ref h0, .int a1, .int a2, .int a3, .int a4]) ++ List.replicate (5 - (lg_sl ([.ref h0, .int a1, .int a2, .int a3, .int a4])).length) Slot.unset).toArray = ls at hl ⊢
  obtain ⟨H, hHe⟩ : ∃ H, H = s.heap := ⟨_, rfl⟩
  rw [← hHe] at hP ⊢
  have hS : va_S A s.heap H [] := by rw [hHe]; exact hS
  have hl : lv_has ls 5 [(0, .ref h0), (1, .int a1), (2, .int a2), (3, .int a3), (4, .int a4)] := hl
  refine lv_aload_n hx hb dX13_token_0 rfl (lv_at hl 0 rfl) ?_
  refine va_get (D := (dC, dI)) (ci := 13) (v := .ref q7) (C := RX13) (T := TX13) (N := 180) hx hb hts iX13 hown hK hP 0 rfl rfl 7 (by decide) (hts _ (bP 12 rfl)) (fun _ h9 => h9) (kJ_at hJ 1 rfl) dX13_token_1 ?_
  refine lv_aload_n hx hb dX13_token_4 rfl (lv_at hl 0 rfl) ?_
  refine va_get (D := (dC, dI)) (ci := 13) (v := .int 0) (C := RX13) (T := TX13) (N := 180) hx hb hts iX13 hown hK hP 0 rfl rfl 6 (by decide) (hts _ (bP 161 rfl)) (fun _ h9 => h9) (kJ_at hJ 5 rfl) dX13_token_5 ?_
  refine lv_iload_n hx hb dX13_token_8 rfl (lv_at hl 1 rfl) ?_
  refine kq_iast hx hb hK hP hD hS 1 0 rfl rfl (by unfold vp_in; decide) dX13_token_9 (fun H locs f7 ef7 hP hD hS => ?_)
  have hP : va_P (dC, dI) vwCl [(h0, .inr (13, fs)), (q7, .inl (c7, 12002, .inl f7)), (q8, .inl (c8, 12002, .inl f8)), (q9, .inl (c9, 12002, .inl f9)), (q10, .inl (c10, 12002, .inl f10))] H := hP
  have hD : va_D A [(h0, .inr (13, fs)), (q7, .inl (c7, 12002, .inl f7)), (q8, .inl (c8, 12002, .inl f8)), (q9, .inl (c9, 12002, .inl f9)), (q10, .inl (c10, 12002, .inl f10))] := hD
  refine lv_aload_n hx hb dX13_token_10 rfl (lv_at hl 0 rfl) ?_
  refine va_get (D := (dC, dI)) (ci := 13) (v := .ref q8) (C := RX13) (T := TX13) (N := 180) hx hb hts iX13 hown hK hP 0 rfl rfl 8 (by decide) (hts _ (bP 13 rfl)) (fun _ h9 => h9) (kJ_at hJ 2 rfl) dX13_token_11 ?_
  refine lv_aload_n hx hb dX13_token_14 rfl (lv_at hl 0 rfl) ?_
  refine va_get (D := (dC, dI)) (ci := 13) (v := .int 0) (C := RX13) (T := TX13) (N := 180) hx hb hts iX13 hown hK hP 0 rfl rfl 6 (by decide) (hts _ (bP 161 rfl)) (fun _ h9 => h9) (kJ_at hJ 5 rfl) dX13_token_15 ?_
  refine lv_iload_n hx hb dX13_token_18 rfl (lv_at hl 2 rfl) ?_
  refine kq_iast hx hb hK hP hD hS 2 1 rfl rfl (by unfold vp_in; decide) dX13_token_19 (fun H locs f8 ef8 hP hD hS => ?_)
  have hP : va_P (dC, dI) vwCl [(h0, .inr (13, fs)), (q7, .inl (c7, 12002, .inl f7)), (q8, .inl (c8, 12002, .inl f8)), (q9, .inl (c9, 12002, .inl f9)), (q10, .inl (c10, 12002, .inl f10))] H := hP
  have hD : va_D A [(h0, .inr (13, fs)), (q7, .inl (c7, 12002, .inl f7)), (q8, .inl (c8, 12002, .inl f8)), (q9, .inl (c9, 12002, .inl f9)), (q10, .inl (c10, 12002, .inl f10))] := hD
  refine lv_aload_n hx hb dX13_token_20 rfl (lv_at hl 0 rfl) ?_
  refine va_get (D := (dC, dI)) (ci := 13) (v := .ref q9) (C := RX13) (T := TX13) (N := 180) hx hb hts iX13 hown hK hP 0 rfl rfl 9 (by decide) (hts _ (bP 14 rfl)) (fun _ h9 => h9) (kJ_at hJ 3 rfl) dX13_token_21 ?_
  refine lv_aload_n hx hb dX13_token_24 rfl (lv_at hl 0 rfl) ?_
  refine va_get (D := (dC, dI)) (ci := 13) (v := .int 0) (C := RX13) (T := TX13) (N := 180) hx hb hts iX13 hown hK hP 0 rfl rfl 6 (by decide) (hts _ (bP 161 rfl)) (fun _ h9 => h9) (kJ_at hJ 5 rfl) dX13_token_25 ?_
  refine lv_iload_n hx hb dX13_token_28 rfl (lv_at hl 3 rfl) ?_
  refine kq_iast hx hb hK hP hD hS 3 2 rfl rfl (by unfold vp_in; decide) dX13_token_29 (fun H locs f9 ef9 hP hD hS => ?_)
  have hP : va_P (dC, dI) vwCl [(h0, .inr (13, fs)), (q7, .inl (c7, 12002, .inl f7)), (q8, .inl (c8, 12002, .inl f8)), (q9, .inl (c9, 12002, .inl f9)), (q10, .inl (c10, 12002, .inl f10))] H := hP
  have hD : va_D A [(h0, .inr (13, fs)), (q7, .inl (c7, 12002, .inl f7)), (q8, .inl (c8, 12002, .inl f8)), (q9, .inl (c9, 12002, .inl f9)), (q10, .inl (c10, 12002, .inl f10))] := hD
  refine lv_aload_n hx hb dX13_token_30 rfl (lv_at hl 0 rfl) ?_
  refine va_get (D := (dC, dI)) (ci := 13) (v := .ref q10) (C := RX13) (T := TX13) (N := 180) hx hb hts iX13 hown hK hP 0 rfl rfl 10 (by decide) (hts _ (bP 15 rfl)) (fun _ h9 => h9) (kJ_at hJ 4 rfl) dX13_token_31 ?_
  refine lv_aload_n hx hb dX13_token_34 rfl (lv_at hl 0 rfl) ?_
  refine va_get (D := (dC, dI)) (ci := 13) (v := .int 0) (C := RX13) (T := TX13) (N := 180) hx hb hts iX13 hown hK hP 0 rfl rfl 6 (by decide) (hts _ (bP 161 rfl)) (fun _ h9 => h9) (kJ_at hJ 5 rfl) dX13_token_35 ?_
  refine lv_iload hx hb dX13_token_38 (lv_at hl 4 rfl) ?_
  refine kq_iast hx hb hK hP hD hS 4 3 rfl rfl (by unfold vp_in; decide) dX13_token_40 (fun H locs f10 ef10 hP hD hS => ?_)
  have hP : va_P (dC, dI) vwCl [(h0, .inr (13, fs)), (q7, .inl (c7, 12002, .inl f7)), (q8, .inl (c8, 12002, .inl f8)), (q9, .inl (c9, 12002, .inl f9)), (q10, .inl (c10, 12002, .inl f10))] H := hP
  have hD : va_D A [(h0, .inr (13, fs)), (q7, .inl (c7, 12002, .inl f7)), (q8, .inl (c8, 12002, .inl f8)), (q9, .inl (c9, 12002, .inl f9)), (q10, .inl (c10, 12002, .inl f10))] := hD
  refine lv_aload_n hx hb dX13_token_41 rfl (lv_at hl 0 rfl) ?_
  refine lv_dup hx hb dX13_token_42 rfl ?_
  refine va_get (D := (dC, dI)) (ci := 13) (v := .int 0) (C := RX13) (T := TX13) (N := 180) hx hb hts iX13 hown hK hP 0 rfl rfl 6 (by decide) (hts _ (bP 161 rfl)) (fun _ h9 => h9) (kJ_at hJ 5 rfl) dX13_token_43 ?_
  refine lv_iconst (v := 1) hx hb dX13_token_46 (by decide) ?_
  refine lv_iadd hx hb dX13_token_47 ?_
  refine k_i (v := 1) (by decide) ?_
  refine kq_put [(6, .int 1), (0, .ref qh), (7, .ref q7), (8, .ref q8), (9, .ref q9), (10, .ref q10)] hts iX13 tyX13 tyX13_ok nmX13 hx hb hown hK hP hD hS 0 rfl rfl hJ 6 (by decide) (by decide) (hts _ (bP 161 rfl)) rfl (ty := .int) (by decide +kernel) (v := .int 1) rfl rfl dX13_token_48 (fun f h => kJ_put h _ _ (by decide)) (fun H locs fs hJ hP hD hS => ?_)
  have hP : va_P (dC, dI) vwCl [(h0, .inr (13, fs)), (q7, .inl (c7, 12002, .inl f7)), (q8, .inl (c8, 12002, .inl f8)), (q9, .inl (c9, 12002, .inl f9)), (q10, .inl (c10, 12002, .inl f10))] H := hP
  have hD : va_D A [(h0, .inr (13, fs)), (q7, .inl (c7, 12002, .inl f7)), (q8, .inl (c8, 12002, .inl f8)), (q9, .inl (c9, 12002, .inl f9)), (q10, .inl (c10, 12002, .inl f10))] := hD
  exact W.vret hx hb hr (fun t ht hW => ⟨⟨(fs, f7, f8, f9, f10), rfl, ⟨hJ, by rw [ef7, sb_cl0]; exact pk_us, by rw [ef9, sb_cl0]; exact pk_us⟩, by rw [ht]; exact hP, va_K.moved hW.alike hK, hD⟩, hS.F ht⟩) hS.2.2 dX13_token_51
set_option maxHeartbeats 4000000 in
set_option maxRecDepth 100000 in
/-- an empty tape: the end alone -/
theorem c_M_scanAll (l : Launch) (dC : Nat → ClassId) (dI : Nat → Nat → Nat) (h0 sz : Nat) (fs : List Value) (qh : Nat) (q7 : Nat) (q8 : Nat) (q9 : Nat) (q10 : Nat) (c7 : ClassId) (c8 : ClassId) (c9 : ClassId) (c10 : ClassId) (f7 : Nat → Int32) (f8 : Nat → Int32) (f9 : Nat → Int32) (f10 : Nat → Int32) : Met l yX13_scanAll (.code yX13_scanAll cX13_scanAll 7 none :: wP) ({ frames := 1, cells := 0, slots := 0, locals := 24 }) (va_Pc [.ref h0] (fun U => U.heap.size = sz ∧ kJ 180 [(0, .ref qh), (7, .ref q7), (8, .ref q8), (9, .ref q9), (10, .ref q10), (3, .int 0)] fs ∧ va_P (dC, dI) vwCl [(h0, .inr (13, fs)), (q7, .inl (c7, 12002, .inl f7)), (q8, .inl (c8, 12002, .inl f8)), (q9, .inl (c9, 12002, .inl f9)), (q10, .inl (c10, 12002, .inl f10))] U.heap ∧ va_K (dC, dI) vwCl [(c7, .int), (c8, .int), (c9, .int), (c10, .int)] U ∧ va_D (fun _ => True) [(h0, .inr (13, fs)), (q7, .inl (c7, 12002, .inl f7)), (q8, .inl (c8, 12002, .inl f8)), (q9, .inl (c9, 12002, .inl f9)), (q10, .inl (c10, 12002, .inl f10))])) (va_Qv (fun u : (List Value × (Nat → Int32) × (Nat → Int32) × (Nat → Int32) × (Nat → Int32)) => match u with | (fs, f7, f8, f9, f10) => kJ 180 [(0, .ref qh), (7, .ref q7), (8, .ref q8), (9, .ref q9), (10, .ref q10)] fs ∧ f7 0 = 75 ∧ f9 0 = 1) (fun (u : (List Value × (Nat → Int32) × (Nat → Int32) × (Nat → Int32) × (Nat → Int32))) (t : State) => match u with | (gs, g7, g8, g9, g10) => va_P (dC, dI) vwCl [(h0, .inr (13, gs)), (q7, .inl (c7, 12002, .inl g7)), (q8, .inl (c8, 12002, .inl g8)), (q9, .inl (c9, 12002, .inl g9)), (q10, .inl (c10, 12002, .inl g10))] t.heap ∧ va_K (dC, dI) vwCl [(c7, .int), (c8, .int), (c9, .int), (c10, .int)] t ∧ va_D (va_A [(h0, .inr (13, fs)), (q7, .inl (c7, 12002, .inl f7)), (q8, .inl (c8, 12002, .inl f8)), (q9, .inl (c9, 12002, .inl f9)), (q10, .inl (c10, 12002, .inl f10))] sz) [(h0, .inr (13, gs)), (q7, .inl (c7, 12002, .inl g7)), (q8, .inl (c8, 12002, .inl g8)), (q9, .inl (c9, 12002, .inl g9)), (q10, .inl (c10, 12002, .inl g10))]) (va_A [(h0, .inr (13, fs)), (q7, .inl (c7, 12002, .inl f7)), (q8, .inl (c8, 12002, .inl f8)), (q9, .inl (c9, 12002, .inl f9)), (q10, .inl (c10, 12002, .inl f10))] sz)) 0 0 (va_A [(h0, .inr (13, fs)), (q7, .inl (c7, 12002, .inl f7)), (q8, .inl (c8, 12002, .inl f8)), (q9, .inl (c9, 12002, .inl f9)), (q10, .inl (c10, 12002, .inl f10))] sz) := by
  refine Met.ofW (cc := cX13_scanAll) (maxL := 7) (ret := none) (by decide) rfl ?_
  intro p e s m args below meth c s₁ B hml hv
  obtain ⟨rfl, hsz, hJ, hP, hK, hD0⟩ := hv
  have hx := B.exec
  have hb := B.bytes
  have hr := B.returns
  have hts := atoms_spec (ws := .code yX13_scanAll cX13_scanAll 7 none :: wP) B.pre
  have hown : s.vm.findClass RX13 = some m.cls := findClass_of_methodNamed B.named
  subst hsz
  have hD := hD0.self (sz := s.heap.size)
  generalize hAe : va_A [(h0, .inr (13, fs)), (q7, .inl (c7, 12002, .inl f7)), (q8, .inl (c8, 12002, .inl f8)), (q9, .inl (c9, 12002, .inl f9)), (q10, .inl (c10, 12002, .inl f10))] s.heap.size = A at hD ⊢
  have hA : ∀ q : Nat, s.heap.size ≤ q → A q := fun q h => by rw [← hAe]; exact Or.inr h
  have hS : va_S A s.heap s.heap [] := va_S.rf
  have hl := lv_entry ([.ref h0]) (n := 7) (Nat.le_of_ble_eq_true rfl)
  rw [lg_entry_eq]
  generalize (lg_sl ([.ref h0]) ++ List.replicate (7 - (lg_sl ([.ref h0])).length) Slot.unset).toArray = ls at hl ⊢
  obtain ⟨H, hHe⟩ : ∃ H, H = s.heap := ⟨_, rfl⟩
  rw [← hHe] at hP ⊢
  have hS : va_S A s.heap H [] := by rw [hHe]; exact hS
  have hl : lv_has ls 7 [(0, .ref h0)] := hl
  refine lv_aload_n hx hb dX13_scanAll_0 rfl (lv_at hl 0 rfl) ?_
  refine lv_iconst (v := 0) hx hb dX13_scanAll_1 (by decide) ?_
  refine kq_put [(6, .int 0), (0, .ref qh), (7, .ref q7), (8, .ref q8), (9, .ref q9), (10, .ref q10), (3, .int 0)] hts iX13 tyX13 tyX13_ok nmX13 hx hb hown hK hP hD hS 0 rfl rfl hJ 6 (by decide) (by decide) (hts _ (bP 161 rfl)) rfl (ty := .int) (by decide +kernel) (v := .int 0) rfl rfl dX13_scanAll_2 (fun f h => kJ_put h _ _ (by decide)) (fun H locs fs hJ hP hD hS => ?_)
  have hP : va_P (dC, dI) vwCl [(h0, .inr (13, fs)), (q7, .inl (c7, 12002, .inl f7)), (q8, .inl (c8, 12002, .inl f8)), (q9, .inl (c9, 12002, .inl f9)), (q10, .inl (c10, 12002, .inl f10))] H := hP
  have hD : va_D A [(h0, .inr (13, fs)), (q7, .inl (c7, 12002, .inl f7)), (q8, .inl (c8, 12002, .inl f8)), (q9, .inl (c9, 12002, .inl f9)), (q10, .inl (c10, 12002, .inl f10))] := hD
  refine lv_aload_n hx hb dX13_scanAll_5 rfl (lv_at hl 0 rfl) ?_
  refine lv_iconst (v := 0) hx hb dX13_scanAll_6 (by decide) ?_
  refine kq_put [(13, .int 0), (6, .int 0), (0, .ref qh), (7, .ref q7), (8, .ref q8), (9, .ref q9), (10, .ref q10), (3, .int 0)] hts iX13 tyX13 tyX13_ok nmX13 hx hb hown hK hP hD hS 0 rfl rfl hJ 13 (by decide) (by decide) (hts _ (bP 163 rfl)) rfl (ty := .int) (by decide +kernel) (v := .int 0) rfl rfl dX13_scanAll_7 (fun f h => kJ_put h _ _ (by decide)) (fun H locs fs hJ hP hD hS => ?_)
  have hP : va_P (dC, dI) vwCl [(h0, .inr (13, fs)), (q7, .inl (c7, 12002, .inl f7)), (q8, .inl (c8, 12002, .inl f8)), (q9, .inl (c9, 12002, .inl f9)), (q10, .inl (c10, 12002, .inl f10))] H := hP
  have hD : va_D A [(h0, .inr (13, fs)), (q7, .inl (c7, 12002, .inl f7)), (q8, .inl (c8, 12002, .inl f8)), (q9, .inl (c9, 12002, .inl f9)), (q10, .inl (c10, 12002, .inl f10))] := hD
  refine lv_aload_n hx hb dX13_scanAll_10 rfl (lv_at hl 0 rfl) ?_
  refine lv_iconst (v := 0) hx hb dX13_scanAll_11 (by decide) ?_
  refine kq_put [(17, .int 0), (13, .int 0), (6, .int 0), (0, .ref qh), (7, .ref q7), (8, .ref q8), (9, .ref q9), (10, .ref q10), (3, .int 0)] hts iX13 tyX13 tyX13_ok nmX13 hx hb hown hK hP hD hS 0 rfl rfl hJ 17 (by decide) (by decide) (hts _ (bP 164 rfl)) rfl (ty := .int) (by decide +kernel) (v := .int 0) rfl rfl dX13_scanAll_12 (fun f h => kJ_put h _ _ (by decide)) (fun H locs fs hJ hP hD hS => ?_)
  have hP : va_P (dC, dI) vwCl [(h0, .inr (13, fs)), (q7, .inl (c7, 12002, .inl f7)), (q8, .inl (c8, 12002, .inl f8)), (q9, .inl (c9, 12002, .inl f9)), (q10, .inl (c10, 12002, .inl f10))] H := hP
  have hD : va_D A [(h0, .inr (13, fs)), (q7, .inl (c7, 12002, .inl f7)), (q8, .inl (c8, 12002, .inl f8)), (q9, .inl (c9, 12002, .inl f9)), (q10, .inl (c10, 12002, .inl f10))] := hD
  refine lv_aload_n hx hb dX13_scanAll_15 rfl (lv_at hl 0 rfl) ?_
  refine lv_iconst (v := 0) hx hb dX13_scanAll_16 (by decide) ?_
  refine kq_put [(18, .int 0), (17, .int 0), (13, .int 0), (6, .int 0), (0, .ref qh), (7, .ref q7), (8, .ref q8), (9, .ref q9), (10, .ref q10), (3, .int 0)] hts iX13 tyX13 tyX13_ok nmX13 hx hb hown hK hP hD hS 0 rfl rfl hJ 18 (by decide) (by decide) (hts _ (bP 165 rfl)) rfl (ty := .int) (by decide +kernel) (v := .int 0) rfl rfl dX13_scanAll_17 (fun f h => kJ_put h _ _ (by decide)) (fun H locs fs hJ hP hD hS => ?_)
  have hP : va_P (dC, dI) vwCl [(h0, .inr (13, fs)), (q7, .inl (c7, 12002, .inl f7)), (q8, .inl (c8, 12002, .inl f8)), (q9, .inl (c9, 12002, .inl f9)), (q10, .inl (c10, 12002, .inl f10))] H := hP
  have hD : va_D A [(h0, .inr (13, fs)), (q7, .inl (c7, 12002, .inl f7)), (q8, .inl (c8, 12002, .inl f8)), (q9, .inl (c9, 12002, .inl f9)), (q10, .inl (c10, 12002, .inl f10))] := hD
  refine lv_aload_n hx hb dX13_scanAll_20 rfl (lv_at hl 0 rfl) ?_
  refine lv_iconst (v := 0) hx hb dX13_scanAll_21 (by decide) ?_
  refine kq_put [(22, .int 0), (18, .int 0), (17, .int 0), (13, .int 0), (6, .int 0), (0, .ref qh), (7, .ref q7), (8, .ref q8), (9, .ref q9), (10, .ref q10), (3, .int 0)] hts iX13 tyX13 tyX13_ok nmX13 hx hb hown hK hP hD hS 0 rfl rfl hJ 22 (by decide) (by decide) (hts _ (bP 166 rfl)) rfl (ty := .int) (by decide +kernel) (v := .int 0) rfl rfl dX13_scanAll_22 (fun f h => kJ_put h _ _ (by decide)) (fun H locs fs hJ hP hD hS => ?_)
  have hP : va_P (dC, dI) vwCl [(h0, .inr (13, fs)), (q7, .inl (c7, 12002, .inl f7)), (q8, .inl (c8, 12002, .inl f8)), (q9, .inl (c9, 12002, .inl f9)), (q10, .inl (c10, 12002, .inl f10))] H := hP
  have hD : va_D A [(h0, .inr (13, fs)), (q7, .inl (c7, 12002, .inl f7)), (q8, .inl (c8, 12002, .inl f8)), (q9, .inl (c9, 12002, .inl f9)), (q10, .inl (c10, 12002, .inl f10))] := hD
  refine lv_aload_n hx hb dX13_scanAll_25 rfl (lv_at hl 0 rfl) ?_
  refine lv_iconst (v := 0) hx hb dX13_scanAll_26 (by decide) ?_
  refine kq_put [(11, .int 0), (22, .int 0), (18, .int 0), (17, .int 0), (13, .int 0), (6, .int 0), (0, .ref qh), (7, .ref q7), (8, .ref q8), (9, .ref q9), (10, .ref q10), (3, .int 0)] hts iX13 tyX13 tyX13_ok nmX13 hx hb hown hK hP hD hS 0 rfl rfl hJ 11 (by decide) (by decide) (hts _ (bP 167 rfl)) rfl (ty := .int) (by decide +kernel) (v := .int 0) rfl rfl dX13_scanAll_27 (fun f h => kJ_put h _ _ (by decide)) (fun H locs fs hJ hP hD hS => ?_)
  have hP : va_P (dC, dI) vwCl [(h0, .inr (13, fs)), (q7, .inl (c7, 12002, .inl f7)), (q8, .inl (c8, 12002, .inl f8)), (q9, .inl (c9, 12002, .inl f9)), (q10, .inl (c10, 12002, .inl f10))] H := hP
  have hD : va_D A [(h0, .inr (13, fs)), (q7, .inl (c7, 12002, .inl f7)), (q8, .inl (c8, 12002, .inl f8)), (q9, .inl (c9, 12002, .inl f9)), (q10, .inl (c10, 12002, .inl f10))] := hD
  refine lv_aload_n hx hb dX13_scanAll_30 rfl (lv_at hl 0 rfl) ?_
  refine lv_iconst (v := 0) hx hb dX13_scanAll_31 (by decide) ?_
  refine kq_put [(12, .int 0), (11, .int 0), (22, .int 0), (18, .int 0), (17, .int 0), (13, .int 0), (6, .int 0), (0, .ref qh), (7, .ref q7), (8, .ref q8), (9, .ref q9), (10, .ref q10), (3, .int 0)] hts iX13 tyX13 tyX13_ok nmX13 hx hb hown hK hP hD hS 0 rfl rfl hJ 12 (by decide) (by decide) (hts _ (bP 168 rfl)) rfl (ty := .int) (by decide +kernel) (v := .int 0) rfl rfl dX13_scanAll_32 (fun f h => kJ_put h _ _ (by decide)) (fun H locs fs hJ hP hD hS => ?_)
  have hP : va_P (dC, dI) vwCl [(h0, .inr (13, fs)), (q7, .inl (c7, 12002, .inl f7)), (q8, .inl (c8, 12002, .inl f8)), (q9, .inl (c9, 12002, .inl f9)), (q10, .inl (c10, 12002, .inl f10))] H := hP
  have hD : va_D A [(h0, .inr (13, fs)), (q7, .inl (c7, 12002, .inl f7)), (q8, .inl (c8, 12002, .inl f8)), (q9, .inl (c9, 12002, .inl f9)), (q10, .inl (c10, 12002, .inl f10))] := hD
  refine lv_aload_n hx hb dX13_scanAll_35 rfl (lv_at hl 0 rfl) ?_
  refine lv_iconst (v := 0) hx hb dX13_scanAll_36 (by decide) ?_
  refine kq_put [(23, .int 0), (12, .int 0), (11, .int 0), (22, .int 0), (18, .int 0), (17, .int 0), (13, .int 0), (6, .int 0), (0, .ref qh), (7, .ref q7), (8, .ref q8), (9, .ref q9), (10, .ref q10), (3, .int 0)] hts iX13 tyX13 tyX13_ok nmX13 hx hb hown hK hP hD hS 0 rfl rfl hJ 23 (by decide) (by decide) (hts _ (bP 169 rfl)) rfl (ty := .int) (by decide +kernel) (v := .int 0) rfl rfl dX13_scanAll_37 (fun f h => kJ_put h _ _ (by decide)) (fun H locs fs hJ hP hD hS => ?_)
  have hP : va_P (dC, dI) vwCl [(h0, .inr (13, fs)), (q7, .inl (c7, 12002, .inl f7)), (q8, .inl (c8, 12002, .inl f8)), (q9, .inl (c9, 12002, .inl f9)), (q10, .inl (c10, 12002, .inl f10))] H := hP
  have hD : va_D A [(h0, .inr (13, fs)), (q7, .inl (c7, 12002, .inl f7)), (q8, .inl (c8, 12002, .inl f8)), (q9, .inl (c9, 12002, .inl f9)), (q10, .inl (c10, 12002, .inl f10))] := hD
  refine lv_iconst (v := 1) hx hb dX13_scanAll_40 (by decide) ?_
  refine lv_istore_n (lv' := [(1, .int 1), (0, .ref h0)]) hx hb dX13_scanAll_41 rfl hl (by decide) rfl (fun ls hl => ?_)
  refine lv_iconst (v := 1) hx hb dX13_scanAll_42 (by decide) ?_
  refine lv_istore_n (lv' := [(2, .int 1), (1, .int 1), (0, .ref h0)]) hx hb dX13_scanAll_43 rfl hl (by decide) rfl (fun ls hl => ?_)
  refine lv_aload_n hx hb dX13_scanAll_44 rfl (lv_at hl 2 rfl) ?_
  refine va_get (D := (dC, dI)) (ci := 13) (v := .int 0) (C := RX13) (T := TX13) (N := 180) hx hb hts iX13 hown hK hP 0 rfl rfl 23 (by decide) (hts _ (bP 169 rfl)) (fun _ h9 => h9) (kJ_at hJ 0 rfl) dX13_scanAll_45 ?_
  refine lv_aload_n hx hb dX13_scanAll_48 rfl (lv_at hl 2 rfl) ?_
  refine va_get (D := (dC, dI)) (ci := 13) (v := .int 0) (C := RX13) (T := TX13) (N := 180) hx hb hts iX13 hown hK hP 0 rfl rfl 3 (by decide) (hts _ (bP 139 rfl)) (fun _ h9 => h9) (kJ_at hJ 13 rfl) dX13_scanAll_49 ?_
  refine lv_icmp_ge (tgt := 347) hx hb dX13_scanAll_52 (by decide) (fun _ => ?_) (fun h => absurd h (by decide))
  refine lv_aload_n hx hb dX13_scanAll_347 rfl (lv_at hl 2 rfl) ?_
  refine lv_bipush (v := 75) hx hb dX13_scanAll_348 (by decide) ?_
  refine lv_iconst (v := 0) hx hb dX13_scanAll_350 (by decide) ?_
  refine lv_iload_n hx hb dX13_scanAll_351 rfl (lv_at hl 1 rfl) ?_
  refine lv_iconst (v := (-1)) hx hb dX13_scanAll_352 (by decide) ?_
  have hPc := hP.sub (ws' := [(h0, .inr (13, fs)), (q7, .inl (c7, 12002, .inl f7)), (q8, .inl (c8, 12002, .inl f8)), (q9, .inl (c9, 12002, .inl f9)), (q10, .inl (c10, 12002, .inl f10))]) [0, 1, 2, 3, 4] rfl
  have hDc := hD.sub (ws' := [(h0, .inr (13, fs)), (q7, .inl (c7, 12002, .inl f7)), (q8, .inl (c8, 12002, .inl f8)), (q9, .inl (c9, 12002, .inl f9)), (q10, .inl (c10, 12002, .inl f10))]) [0, 1, 2, 3, 4] (by decide) rfl
  have hKc := hK.sub (tys' := [(c7, .int), (c8, .int), (c9, .int), (c10, .int)]) [0, 1, 2, 3] rfl
  have hFc := va_free (wc := [(h0, .inr (13, fs)), (q7, .inl (c7, 12002, .inl f7)), (q8, .inl (c8, 12002, .inl f8)), (q9, .inl (c9, 12002, .inl f9)), (q10, .inl (c10, 12002, .inl f10))]) hD hS hA [0, 1, 2, 3, 4] rfl
  refine va_callv (va_runV (As := [.int 75, .int 0, .int 1, .int ((-1))]) (rest := []) ⟨hx, hb, hml, hown, hts⟩ (c_M_token l dC dI h0 H.size fs qh q7 q8 q9 q10 c7 c8 c9 c10 f7 f8 f9 f10 75 0 1 (-1)) (cwV 4 hts (gV (y := yX13_token) _ 170 171 172 149 160 rfl rfl rfl rfl rfl) rfl rfl rfl (by decide +kernel) ⟨Nat.le_of_ble_eq_true rfl, Nat.le_of_ble_eq_true rfl⟩) ⟨fun a U g mk q => by obtain ⟨q0, q1, qJ, qP, qK, qD⟩ := q; exact ⟨q0, q1, qJ, qP, va_K.moved (u := U) (U := U.calling g mk a) (Vm.Alike.refl U.vm) qK, qD⟩, va_recv hKc hPc (ci := 13) (q0 := 0) rfl rfl, fun U hU hW => ⟨rfl, by rw [hU], kJ_sub hJ (by simp), by rw [hU]; exact hPc, va_K.moved hW.alike hKc, hDc.weaken (fun _ _ _ _ => trivial)⟩⟩ rfl rfl hl.1 rfl (lv_room (Nat.le_of_ble_eq_true rfl)) dX13_scanAll_353 ⟨Nat.le_of_ble_eq_true rfl, Nat.le_of_ble_eq_true rfl⟩) hS (fun q _ h => hFc q h) hFc (fun u t H1 locs ht hvm hw hB hz1 hk1 hS => ?_)
  obtain ⟨fs, f7, f8, f9, f10⟩ := u
  obtain ⟨hJ, h7, h9⟩ := hw
  obtain ⟨hP1, hK1, hD1⟩ := hB
  rw [ht] at hP1
  have hK1 := va_K.moved hvm.symm hK1
  obtain ⟨hP, hD⟩ := va_join (wr := []) (w1 := [(h0, .inr (13, fs)), (q7, .inl (c7, 12002, .inl f7)), (q8, .inl (c8, 12002, .inl f8)), (q9, .inl (c9, 12002, .inl f9)), (q10, .inl (c10, 12002, .inl f10))]) hP hD [0, 1, 2, 3, 4] [] rfl rfl (by decide) (by decide) hk1 hFc hP1 hD1
  have hK := (hK.sub (tys' := []) [] rfl).app hK1
  clear hPc hDc hKc hFc hP1 hK1 hD1 hk1 hz1
  generalize H1 = H at hP hS ⊢
  have hP : va_P (dC, dI) vwCl [(h0, .inr (13, fs)), (q7, .inl (c7, 12002, .inl f7)), (q8, .inl (c8, 12002, .inl f8)), (q9, .inl (c9, 12002, .inl f9)), (q10, .inl (c10, 12002, .inl f10))] H := hP
  have hD : va_D A [(h0, .inr (13, fs)), (q7, .inl (c7, 12002, .inl f7)), (q8, .inl (c8, 12002, .inl f8)), (q9, .inl (c9, 12002, .inl f9)), (q10, .inl (c10, 12002, .inl f10))] := hD
  have hK : va_K (dC, dI) vwCl [(c7, .int), (c8, .int), (c9, .int), (c10, .int)] s := hK
  exact W.vret hx hb hr (fun t ht hW => ⟨⟨(fs, f7, f8, f9, f10), rfl, ⟨kJ_sub hJ (by simp), h7, h9⟩, by rw [ht]; exact hP, va_K.moved hW.alike hK, hD⟩, hS.F ht⟩) hS.2.2 dX13_scanAll_356
set_option maxHeartbeats 4000000 in
set_option maxRecDepth 100000 in
/-- the end -/
theorem c_M_look (l : Launch) (dC : Nat → ClassId) (dI : Nat → Nat → Nat) (h0 sz : Nat) (fs fsH : List Value) (qh q7 q9 : Nat) (c7 c9 : ClassId) (f7 f9 : Nat → Int32) : Met l yX13_look (.code yX13_look cX13_look 1 (some .int) :: wP) ({ frames := 0, cells := 0, slots := 0, locals := 0 }) (va_Pc [.ref h0] (fun U => U.heap.size = sz ∧ kJ 180 [(0, .ref qh), (7, .ref q7), (9, .ref q9), (35, .int 0)] fs ∧ f7 0 = 75 ∧ f9 0 = 1 ∧ va_P (dC, dI) vwCl [(h0, .inr (13, fs)), (qh, .inr (12, fsH)), (q7, .inl (c7, 12002, .inl f7)), (q9, .inl (c9, 12002, .inl f9))] U.heap ∧ va_K (dC, dI) vwCl [(c7, .int), (c9, .int)] U ∧ va_D (fun _ => True) [(h0, .inr (13, fs)), (qh, .inr (12, fsH)), (q7, .inl (c7, 12002, .inl f7)), (q9, .inl (c9, 12002, .inl f9))])) (va_Qi (fun r (_ : Unit) => r = 75) (fun (_ : Unit) (t : State) => va_P (dC, dI) vwCl [(h0, .inr (13, fs)), (qh, .inr (12, fsH)), (q7, .inl (c7, 12002, .inl f7)), (q9, .inl (c9, 12002, .inl f9))] t.heap ∧ va_K (dC, dI) vwCl [(c7, .int), (c9, .int)] t ∧ va_D (va_A [(h0, .inr (13, fs)), (qh, .inr (12, fsH)), (q7, .inl (c7, 12002, .inl f7)), (q9, .inl (c9, 12002, .inl f9))] sz) [(h0, .inr (13, fs)), (qh, .inr (12, fsH)), (q7, .inl (c7, 12002, .inl f7)), (q9, .inl (c9, 12002, .inl f9))]) (va_A [(h0, .inr (13, fs)), (qh, .inr (12, fsH)), (q7, .inl (c7, 12002, .inl f7)), (q9, .inl (c9, 12002, .inl f9))] sz)) 0 0 (va_A [(h0, .inr (13, fs)), (qh, .inr (12, fsH)), (q7, .inl (c7, 12002, .inl f7)), (q9, .inl (c9, 12002, .inl f9))] sz) := by
  refine Met.ofW (cc := cX13_look) (maxL := 1) (ret := (some .int)) (by decide) rfl ?_
  intro p e s m args below meth c s₁ B hml hv
  obtain ⟨rfl, hsz, hJ, h7, h9, hP, hK, hD0⟩ := hv
  have hx := B.exec
  have hb := B.bytes
  have hr := B.returns
  have hts := atoms_spec (ws := .code yX13_look cX13_look 1 (some .int) :: wP) B.pre
  have hown : s.vm.findClass RX13 = some m.cls := findClass_of_methodNamed B.named
  subst hsz
  have hD := hD0.self (sz := s.heap.size)
  generalize hAe : va_A [(h0, .inr (13, fs)), (qh, .inr (12, fsH)), (q7, .inl (c7, 12002, .inl f7)), (q9, .inl (c9, 12002, .inl f9))] s.heap.size = A at hD ⊢
  have hA : ∀ q : Nat, s.heap.size ≤ q → A q := fun q h => by rw [← hAe]; exact Or.inr h
  have hS : va_S A s.heap s.heap [] := va_S.rf
  have hl := lv_entry ([.ref h0]) (n := 1) (Nat.le_of_ble_eq_true rfl)
  rw [lg_entry_eq]
  generalize (lg_sl ([.ref h0]) ++ List.replicate (1 - (lg_sl ([.ref h0])).length) Slot.unset).toArray = ls at hl ⊢
  obtain ⟨H, hHe⟩ : ∃ H, H = s.heap := ⟨_, rfl⟩
  rw [← hHe] at hP ⊢
  have hS : va_S A s.heap H [] := by rw [hHe]; exact hS
  have hl : lv_has ls 1 [(0, .ref h0)] := hl
  refine lv_aload_n hx hb dX13_look_0 rfl (lv_at hl 0 rfl) ?_
  refine va_get (D := (dC, dI)) (ci := 13) (v := .ref q7) (C := RX13) (T := TX13) (N := 180) hx hb hts iX13 hown hK hP 0 rfl rfl 7 (by decide) (hts _ (bP 12 rfl)) (fun _ h9 => h9) (kJ_at hJ 1 rfl) dX13_look_1 ?_
  refine lv_aload_n hx hb dX13_look_4 rfl (lv_at hl 0 rfl) ?_
  refine va_get (D := (dC, dI)) (ci := 13) (v := .int 0) (C := RX13) (T := TX13) (N := 180) hx hb hts iX13 hown hK hP 0 rfl rfl 35 (by decide) (hts _ (bP 174 rfl)) (fun _ h9 => h9) (kJ_at hJ 3 rfl) dX13_look_5 ?_
  refine va_iald hx hb hK hP 2 0 rfl rfl (by unfold vp_in; decide) dX13_look_8 ?_
  refine k_i (v := 75) h7 ?_
  exact W.iret (v := 75) hx hb hr (fun t ht hW => ⟨⟨75, (), rfl, rfl, by rw [ht]; exact hP, va_K.moved hW.alike hK, hD⟩, hS.F ht⟩) hS.2.2 dX13_look_9
set_option maxHeartbeats 4000000 in
set_option maxRecDepth 100000 in
/-- no line is there -/
theorem c_M_isAt (l : Launch) (dC : Nat → ClassId) (dI : Nat → Nat → Nat) (h0 sz : Nat) (fs fsH : List Value) (qh q7 q9 : Nat) (c7 c9 : ClassId) (f7 f9 : Nat → Int32) (a1 : Int32) : Met l yX13_isAt (.code yX13_isAt cX13_isAt 2 (some .boolean) :: wP) ({ frames := 1, cells := 0, slots := 0, locals := 20 }) (va_Pc [.ref h0, .int a1] (fun U => U.heap.size = sz ∧ kJ 180 [(0, .ref qh), (7, .ref q7), (9, .ref q9), (35, .int 0)] fs ∧ f7 0 = 75 ∧ f9 0 = 1 ∧ va_P (dC, dI) vwCl [(h0, .inr (13, fs)), (qh, .inr (12, fsH)), (q7, .inl (c7, 12002, .inl f7)), (q9, .inl (c9, 12002, .inl f9))] U.heap ∧ va_K (dC, dI) vwCl [(c7, .int), (c9, .int)] U ∧ va_D (fun _ => True) [(h0, .inr (13, fs)), (qh, .inr (12, fsH)), (q7, .inl (c7, 12002, .inl f7)), (q9, .inl (c9, 12002, .inl f9))])) (va_Qi (fun r (_ : Unit) => r = 0) (fun (_ : Unit) (t : State) => va_P (dC, dI) vwCl [(h0, .inr (13, fs)), (qh, .inr (12, fsH)), (q7, .inl (c7, 12002, .inl f7)), (q9, .inl (c9, 12002, .inl f9))] t.heap ∧ va_K (dC, dI) vwCl [(c7, .int), (c9, .int)] t ∧ va_D (va_A [(h0, .inr (13, fs)), (qh, .inr (12, fsH)), (q7, .inl (c7, 12002, .inl f7)), (q9, .inl (c9, 12002, .inl f9))] sz) [(h0, .inr (13, fs)), (qh, .inr (12, fsH)), (q7, .inl (c7, 12002, .inl f7)), (q9, .inl (c9, 12002, .inl f9))]) (va_A [(h0, .inr (13, fs)), (qh, .inr (12, fsH)), (q7, .inl (c7, 12002, .inl f7)), (q9, .inl (c9, 12002, .inl f9))] sz)) 0 0 (va_A [(h0, .inr (13, fs)), (qh, .inr (12, fsH)), (q7, .inl (c7, 12002, .inl f7)), (q9, .inl (c9, 12002, .inl f9))] sz) := by
  refine Met.ofW (cc := cX13_isAt) (maxL := 2) (ret := (some .boolean)) (by decide) rfl ?_
  intro p e s m args below meth c s₁ B hml hv
  obtain ⟨rfl, hsz, hJ, h7, h9, hP, hK, hD0⟩ := hv
  have hx := B.exec
  have hb := B.bytes
  have hr := B.returns
  have hts := atoms_spec (ws := .code yX13_isAt cX13_isAt 2 (some .boolean) :: wP) B.pre
  have hown : s.vm.findClass RX13 = some m.cls := findClass_of_methodNamed B.named
  subst hsz
  have hD := hD0.self (sz := s.heap.size)
  generalize hAe : va_A [(h0, .inr (13, fs)), (qh, .inr (12, fsH)), (q7, .inl (c7, 12002, .inl f7)), (q9, .inl (c9, 12002, .inl f9))] s.heap.size = A at hD ⊢
  have hA : ∀ q : Nat, s.heap.size ≤ q → A q := fun q h => by rw [← hAe]; exact Or.inr h
  have hS : va_S A s.heap s.heap [] := va_S.rf
  have hl := lv_entry ([.ref h0, .int a1]) (n := 2) (Nat.le_of_ble_eq_true rfl)
  rw [lg_entry_eq]
  generalize (lg_sl ([.ref h0, .int a1]) ++ List.replicate (2 - (lg_sl ([.ref h0, .int a1])).length) Slot.unset).toArray = ls at hl ⊢
  obtain ⟨H, hHe⟩ : ∃ H, H = s.heap := ⟨_, rfl⟩
  rw [← hHe] at hP ⊢
  have hS : va_S A s.heap H [] := by rw [hHe]; exact hS
  have hl : lv_has ls 2 [(0, .ref h0), (1, .int a1)] := hl
  refine lv_aload_n hx hb dX13_isAt_0 rfl (lv_at hl 0 rfl) ?_
  have hPc := hP.sub (ws' := [(h0, .inr (13, fs)), (qh, .inr (12, fsH)), (q7, .inl (c7, 12002, .inl f7)), (q9, .inl (c9, 12002, .inl f9))]) [0, 1, 2, 3] rfl
  have hDc := hD.sub (ws' := [(h0, .inr (13, fs)), (qh, .inr (12, fsH)), (q7, .inl (c7, 12002, .inl f7)), (q9, .inl (c9, 12002, .inl f9))]) [0, 1, 2, 3] (by decide) rfl
  have hKc := hK.sub (tys' := [(c7, .int), (c9, .int)]) [0, 1] rfl
  have hFc := va_free (wc := [(h0, .inr (13, fs)), (qh, .inr (12, fsH)), (q7, .inl (c7, 12002, .inl f7)), (q9, .inl (c9, 12002, .inl f9))]) hD hS hA [0, 1, 2, 3] rfl
  refine va_calli (va_runV (As := []) (rest := []) ⟨hx, hb, hml, hown, hts⟩ (c_M_look l dC dI h0 H.size fs fsH qh q7 q9 c7 c9 f7 f9) (cwV 0 hts (gV (y := yX13_look) _ 176 177 178 149 173 rfl rfl rfl rfl rfl) rfl rfl rfl (by decide +kernel) ⟨Nat.le_of_ble_eq_true rfl, Nat.le_of_ble_eq_true rfl⟩) ⟨fun a U g mk q => by obtain ⟨q0, q1, qJ, q7, q9, qP, qK, qD⟩ := q; exact ⟨q0, q1, qJ, q7, q9, qP, va_K.moved (u := U) (U := U.calling g mk a) (Vm.Alike.refl U.vm) qK, qD⟩, va_recv hKc hPc (ci := 13) (q0 := 0) rfl rfl, fun U hU hW => ⟨rfl, by rw [hU], kJ_sub hJ (by simp), h7, h9, by rw [hU]; exact hPc, va_K.moved hW.alike hKc, hDc.weaken (fun _ _ _ _ => trivial)⟩⟩ rfl rfl hl.1 rfl (lv_room (Nat.le_of_ble_eq_true rfl)) dX13_isAt_1 ⟨Nat.le_of_ble_eq_true rfl, Nat.le_of_ble_eq_true rfl⟩) hS (fun q _ h => hFc q h) hFc (fun r u t H1 locs ht hvm hw hB hz1 hk1 hS => ?_)
  obtain ⟨hP1, hK1, hD1⟩ := hB
  rw [ht] at hP1
  have hK1 := va_K.moved hvm.symm hK1
  obtain ⟨hP, hD⟩ := va_join (wr := []) (w1 := [(h0, .inr (13, fs)), (qh, .inr (12, fsH)), (q7, .inl (c7, 12002, .inl f7)), (q9, .inl (c9, 12002, .inl f9))]) hP hD [0, 1, 2, 3] [] rfl rfl (by decide) (by decide) hk1 hFc hP1 hD1
  have hK := (hK.sub (tys' := []) [] rfl).app hK1
  clear hPc hDc hKc hFc hP1 hK1 hD1 hk1 hz1
  generalize H1 = H at hP hS ⊢
  have hP : va_P (dC, dI) vwCl [(h0, .inr (13, fs)), (qh, .inr (12, fsH)), (q7, .inl (c7, 12002, .inl f7)), (q9, .inl (c9, 12002, .inl f9))] H := hP
  have hD : va_D A [(h0, .inr (13, fs)), (qh, .inr (12, fsH)), (q7, .inl (c7, 12002, .inl f7)), (q9, .inl (c9, 12002, .inl f9))] := hD
  have hK : va_K (dC, dI) vwCl [(c7, .int), (c9, .int)] s := hK
  subst hw
  refine lv_bipush (v := 75) hx hb dX13_isAt_4 (by decide) ?_
  refine lv_icmp_eq (tgt := 28) hx hb dX13_isAt_6 (by decide) (fun _ => ?_) (fun h => absurd h (by decide))
  refine lv_iconst (v := 0) hx hb dX13_isAt_28 (by decide) ?_
  exact W.zret (v := 0) hx hb hr (by decide) (fun t ht hW => ⟨⟨0, (), rfl, rfl, by rw [ht]; exact hP, va_K.moved hW.alike hK, hD⟩, hS.F ht⟩) hS.2.2 dX13_isAt_29
set_option maxHeartbeats 4000000 in
set_option maxRecDepth 100000 in
/-- a fault of the text is noted -/
theorem c_M_stop (l : Launch) (dC : Nat → ClassId) (dI : Nat → Nat → Nat) (h0 sz : Nat) (fs fsH : List Value) (qh q7 q9 : Nat) (c7 c9 : ClassId) (f7 f9 : Nat → Int32) (a1 : Int32) : Met l yX13_stop (.code yX13_stop cX13_stop 3 (some (.object "MeetingHouseModel$Halt")) :: wP) ({ frames := 0, cells := 0, slots := 0, locals := 0 }) (va_Pc [.ref h0, .int a1] (fun U => U.heap.size = sz ∧ kJ 180 [(0, .ref qh), (7, .ref q7), (9, .ref q9), (35, .int 0)] fs ∧ f7 0 = 75 ∧ f9 0 = 1 ∧ va_P (dC, dI) vwCl [(h0, .inr (13, fs)), (qh, .inr (12, fsH)), (q7, .inl (c7, 12002, .inl f7)), (q9, .inl (c9, 12002, .inl f9))] U.heap ∧ va_K (dC, dI) vwCl [(c7, .int), (c9, .int)] U ∧ va_D (fun _ => True) [(h0, .inr (13, fs)), (qh, .inr (12, fsH)), (q7, .inl (c7, 12002, .inl f7)), (q9, .inl (c9, 12002, .inl f9))])) (va_Qr (fun u : List Value => kJ 180 [(37, .int 1), (36, .int a1)] u) (fun (u : List Value) (ra : Nat) (t : State) => ra = qh ∧ va_P (dC, dI) vwCl [(h0, .inr (13, u)), (qh, .inr (12, fsH)), (q7, .inl (c7, 12002, .inl f7)), (q9, .inl (c9, 12002, .inl f9))] t.heap ∧ va_K (dC, dI) vwCl [(c7, .int), (c9, .int)] t ∧ va_D (va_A [(h0, .inr (13, fs)), (qh, .inr (12, fsH)), (q7, .inl (c7, 12002, .inl f7)), (q9, .inl (c9, 12002, .inl f9))] sz) [(h0, .inr (13, u)), (qh, .inr (12, fsH)), (q7, .inl (c7, 12002, .inl f7)), (q9, .inl (c9, 12002, .inl f9))]) (va_A [(h0, .inr (13, fs)), (qh, .inr (12, fsH)), (q7, .inl (c7, 12002, .inl f7)), (q9, .inl (c9, 12002, .inl f9))] sz)) 0 0 (va_A [(h0, .inr (13, fs)), (qh, .inr (12, fsH)), (q7, .inl (c7, 12002, .inl f7)), (q9, .inl (c9, 12002, .inl f9))] sz) := by
  refine Met.ofW (cc := cX13_stop) (maxL := 3) (ret := (some (.object "MeetingHouseModel$Halt"))) (by decide) rfl ?_
  intro p e s m args below meth c s₁ B hml hv
  obtain ⟨rfl, hsz, hJ, h7, h9, hP, hK, hD0⟩ := hv
  have hx := B.exec
  have hb := B.bytes
  have hr := B.returns
  have hts := atoms_spec (ws := .code yX13_stop cX13_stop 3 (some (.object "MeetingHouseModel$Halt")) :: wP) B.pre
  have hown : s.vm.findClass RX13 = some m.cls := findClass_of_methodNamed B.named
  subst hsz
  have hD := hD0.self (sz := s.heap.size)
  generalize hAe : va_A [(h0, .inr (13, fs)), (qh, .inr (12, fsH)), (q7, .inl (c7, 12002, .inl f7)), (q9, .inl (c9, 12002, .inl f9))] s.heap.size = A at hD ⊢
  have hA : ∀ q : Nat, s.heap.size ≤ q → A q := fun q h => by rw [← hAe]; exact Or.inr h
  have hS : va_S A s.heap s.heap [] := va_S.rf
  have hl := lv_entry ([.ref h0, .int a1]) (n := 3) (Nat.le_of_ble_eq_true rfl)
  rw [lg_entry_eq]
  generalize (lg_sl ([.ref h0, .int a1]) ++ List.replicate (3 - (lg_sl ([.ref h0, .int a1])).length) Slot.unset).toArray = ls at hl ⊢
  obtain ⟨H, hHe⟩ : ∃ H, H = s.heap := ⟨_, rfl⟩
  rw [← hHe] at hP ⊢
  have hS : va_S A s.heap H [] := by rw [hHe]; exact hS
  have hl : lv_has ls 3 [(0, .ref h0), (1, .int a1)] := hl
  refine lv_aload_n hx hb dX13_stop_0 rfl (lv_at hl 0 rfl) ?_
  refine va_get (D := (dC, dI)) (ci := 13) (v := .ref q7) (C := RX13) (T := TX13) (N := 180) hx hb hts iX13 hown hK hP 0 rfl rfl 7 (by decide) (hts _ (bP 12 rfl)) (fun _ h9 => h9) (kJ_at hJ 1 rfl) dX13_stop_1 ?_
  refine lv_aload_n hx hb dX13_stop_4 rfl (lv_at hl 0 rfl) ?_
  refine va_get (D := (dC, dI)) (ci := 13) (v := .int 0) (C := RX13) (T := TX13) (N := 180) hx hb hts iX13 hown hK hP 0 rfl rfl 35 (by decide) (hts _ (bP 174 rfl)) (fun _ h9 => h9) (kJ_at hJ 3 rfl) dX13_stop_5 ?_
  refine va_iald hx hb hK hP 2 0 rfl rfl (by unfold vp_in; decide) dX13_stop_8 ?_
  refine k_i (v := 75) h7 ?_
  refine lv_bipush (v := 76) hx hb dX13_stop_9 (by decide) ?_
  refine lv_icmp_ne (tgt := 18) hx hb dX13_stop_11 (by decide) (fun _ => ?_) (fun h => absurd h (by decide))
  refine lv_iconst (v := 0) hx hb dX13_stop_18 (by decide) ?_
  refine lv_istore_n (lv' := [(2, .int 0), (0, .ref h0), (1, .int a1)]) hx hb dX13_stop_19 rfl hl (by decide) rfl (fun ls hl => ?_)
  refine lv_aload_n hx hb dX13_stop_20 rfl (lv_at hl 1 rfl) ?_
  refine lv_iload_n hx hb dX13_stop_21 rfl (lv_at hl 0 rfl) ?_
  refine lv_if_eq (tgt := 29) hx hb dX13_stop_22 (by decide) (fun _ => ?_) (fun h => absurd h (by decide))
  refine lv_iload_n hx hb dX13_stop_29 rfl (lv_at hl 2 rfl) ?_
  refine kq_put [(36, .int a1), (0, .ref qh), (7, .ref q7), (9, .ref q9), (35, .int 0)] hts iX13 tyX13 tyX13_ok nmX13 hx hb hown hK hP hD hS 0 rfl rfl hJ 36 (by decide) (by decide) (hts _ (bP 180 rfl)) rfl (ty := .int) (by decide +kernel) (v := .int a1) rfl rfl dX13_stop_30 (fun f h => kJ_put h _ _ (by decide)) (fun H locs fs hJ hP hD hS => ?_)
  have hP : va_P (dC, dI) vwCl [(h0, .inr (13, fs)), (qh, .inr (12, fsH)), (q7, .inl (c7, 12002, .inl f7)), (q9, .inl (c9, 12002, .inl f9))] H := hP
  have hD : va_D A [(h0, .inr (13, fs)), (qh, .inr (12, fsH)), (q7, .inl (c7, 12002, .inl f7)), (q9, .inl (c9, 12002, .inl f9))] := hD
  refine lv_aload_n hx hb dX13_stop_33 rfl (lv_at hl 1 rfl) ?_
  refine lv_aload_n hx hb dX13_stop_34 rfl (lv_at hl 1 rfl) ?_
  refine va_get (D := (dC, dI)) (ci := 13) (v := .ref q9) (C := RX13) (T := TX13) (N := 180) hx hb hts iX13 hown hK hP 0 rfl rfl 9 (by decide) (hts _ (bP 14 rfl)) (fun _ h9 => h9) (kJ_at hJ 3 rfl) dX13_stop_35 ?_
  refine lv_aload_n hx hb dX13_stop_38 rfl (lv_at hl 1 rfl) ?_
  refine va_get (D := (dC, dI)) (ci := 13) (v := .int 0) (C := RX13) (T := TX13) (N := 180) hx hb hts iX13 hown hK hP 0 rfl rfl 35 (by decide) (hts _ (bP 174 rfl)) (fun _ h9 => h9) (kJ_at hJ 4 rfl) dX13_stop_39 ?_
  refine va_iald hx hb hK hP 3 1 rfl rfl (by unfold vp_in; decide) dX13_stop_42 ?_
  refine k_i (v := 1) h9 ?_
  refine kq_put [(37, .int 1), (36, .int a1), (0, .ref qh), (7, .ref q7), (9, .ref q9), (35, .int 0)] hts iX13 tyX13 tyX13_ok nmX13 hx hb hown hK hP hD hS 0 rfl rfl hJ 37 (by decide) (by decide) (hts _ (bP 181 rfl)) rfl (ty := .int) (by decide +kernel) (v := .int 1) rfl rfl dX13_stop_43 (fun f h => kJ_put h _ _ (by decide)) (fun H locs fs hJ hP hD hS => ?_)
  have hP : va_P (dC, dI) vwCl [(h0, .inr (13, fs)), (qh, .inr (12, fsH)), (q7, .inl (c7, 12002, .inl f7)), (q9, .inl (c9, 12002, .inl f9))] H := hP
  have hD : va_D A [(h0, .inr (13, fs)), (qh, .inr (12, fsH)), (q7, .inl (c7, 12002, .inl f7)), (q9, .inl (c9, 12002, .inl f9))] := hD
  refine lv_aload_n hx hb dX13_stop_46 rfl (lv_at hl 1 rfl) ?_
  refine va_get (D := (dC, dI)) (ci := 13) (v := .ref qh) (C := RX13) (T := TX13) (N := 180) hx hb hts iX13 hown hK hP 0 rfl rfl 0 (by decide) (hts _ (bP 6 rfl)) (fun _ h9 => h9) (kJ_at hJ 2 rfl) dX13_stop_47 ?_
  exact W.aret (v := .ref qh) hx hb hr (Or.inl ⟨_, rfl⟩) (Or.inr ⟨_, rfl⟩) (fun t ht hW => ⟨⟨fs, qh, rfl, kJ_sub hJ (by simp), rfl, by rw [ht]; exact hP, va_K.moved hW.alike hK, hD⟩, hS.F ht⟩) hS.2.2 dX13_stop_50
set_option maxHeartbeats 4000000 in
set_option maxRecDepth 100000 in
/-- lineAt(0, 0): the end can't stand there -/
theorem c_M_lineAt (l : Launch) (dC : Nat → ClassId) (dI : Nat → Nat → Nat) (h0 sz : Nat) (fs fsH : List Value) (qh q7 q9 : Nat) (c7 c9 : ClassId) (f7 f9 : Nat → Int32) : vx_Met l yX13_lineAt (.code yX13_lineAt cX13_lineAt 3 none :: wP) ({ frames := 2, cells := 0, slots := 0, locals := 42 }) (va_Pc [.ref h0, .int 0, .int 0] (fun U => U.heap.size = sz ∧ kJ 180 [(0, .ref qh), (7, .ref q7), (9, .ref q9), (35, .int 0)] fs ∧ f7 0 = 75 ∧ f9 0 = 1 ∧ va_P (dC, dI) vwCl [(h0, .inr (13, fs)), (qh, .inr (12, fsH)), (q7, .inl (c7, 12002, .inl f7)), (q9, .inl (c9, 12002, .inl f9))] U.heap ∧ va_K (dC, dI) vwCl [(c7, .int), (c9, .int)] U ∧ va_D (fun _ => True) [(h0, .inr (13, fs)), (qh, .inr (12, fsH)), (q7, .inl (c7, 12002, .inl f7)), (q9, .inl (c9, 12002, .inl f9))])) (va_Qv (fun _ : Unit => False) (fun (_ : Unit) (_ : State) => True) (va_A [(h0, .inr (13, fs)), (qh, .inr (12, fsH)), (q7, .inl (c7, 12002, .inl f7)), (q9, .inl (c9, 12002, .inl f9))] sz)) (vx_X (fun u : List Value => kJ 180 [(37, .int 1), (36, .int 2)] u) (fun (E : String) (u : List Value) (t : State) => E = RX12 ∧ va_P (dC, dI) vwCl [(h0, .inr (13, u)), (qh, .inr (12, fsH)), (q7, .inl (c7, 12002, .inl f7)), (q9, .inl (c9, 12002, .inl f9))] t.heap ∧ va_K (dC, dI) vwCl [(c7, .int), (c9, .int)] t ∧ va_D (va_A [(h0, .inr (13, fs)), (qh, .inr (12, fsH)), (q7, .inl (c7, 12002, .inl f7)), (q9, .inl (c9, 12002, .inl f9))] sz) [(h0, .inr (13, u)), (qh, .inr (12, fsH)), (q7, .inl (c7, 12002, .inl f7)), (q9, .inl (c9, 12002, .inl f9))]) (va_A [(h0, .inr (13, fs)), (qh, .inr (12, fsH)), (q7, .inl (c7, 12002, .inl f7)), (q9, .inl (c9, 12002, .inl f9))] sz)) 0 0 (va_A [(h0, .inr (13, fs)), (qh, .inr (12, fsH)), (q7, .inl (c7, 12002, .inl f7)), (q9, .inl (c9, 12002, .inl f9))] sz) := by
  refine vx_ofW (cc := cX13_lineAt) (maxL := 3) (ret := none) (by decide) rfl ?_
  intro p e s m args below meth c s₁ B hml hnt hv
  obtain ⟨rfl, hsz, hJ, h7, h9, hP, hK, hD0⟩ := hv
  have hx := B.exec
  have hb := B.bytes
  have hr := B.returns
  have hts := atoms_spec (ws := .code yX13_lineAt cX13_lineAt 3 none :: wP) B.pre
  have hown : s.vm.findClass RX13 = some m.cls := findClass_of_methodNamed B.named
  subst hsz
  have hD := hD0.self (sz := s.heap.size)
  generalize hAe : va_A [(h0, .inr (13, fs)), (qh, .inr (12, fsH)), (q7, .inl (c7, 12002, .inl f7)), (q9, .inl (c9, 12002, .inl f9))] s.heap.size = A at hD ⊢
  have hA : ∀ q : Nat, s.heap.size ≤ q → A q := fun q h => by rw [← hAe]; exact Or.inr h
  have hS : va_S A s.heap s.heap [] := va_S.rf
  have hl := lv_entry ([.ref h0, .int 0, .int 0]) (n := 3) (Nat.le_of_ble_eq_true rfl)
  rw [lg_entry_eq]
  generalize (lg_sl ([.ref h0, .int 0, .int 0]) ++ List.replicate (3 - (lg_sl ([.ref h0, .int 0, .int 0])).length) Slot.unset).toArray = ls at hl ⊢
  obtain ⟨H, hHe⟩ : ∃ H, H = s.heap := ⟨_, rfl⟩
  rw [← hHe] at hP ⊢
  have hS : va_S A s.heap H [] := by rw [hHe]; exact hS
  have hl : lv_has ls 3 [(0, .ref h0), (1, .int 0), (2, .int 0)] := hl
  refine lv_aload_n hx hb dX13_lineAt_0 rfl (lv_at hl 0 rfl) ?_
  refine lv_iload_n hx hb dX13_lineAt_1 rfl (lv_at hl 1 rfl) ?_
  have hPc := hP.sub (ws' := [(h0, .inr (13, fs)), (qh, .inr (12, fsH)), (q7, .inl (c7, 12002, .inl f7)), (q9, .inl (c9, 12002, .inl f9))]) [0, 1, 2, 3] rfl
  have hDc := hD.sub (ws' := [(h0, .inr (13, fs)), (qh, .inr (12, fsH)), (q7, .inl (c7, 12002, .inl f7)), (q9, .inl (c9, 12002, .inl f9))]) [0, 1, 2, 3] (by decide) rfl
  have hKc := hK.sub (tys' := [(c7, .int), (c9, .int)]) [0, 1] rfl
  have hFc := va_free (wc := [(h0, .inr (13, fs)), (qh, .inr (12, fsH)), (q7, .inl (c7, 12002, .inl f7)), (q9, .inl (c9, 12002, .inl f9))]) hD hS hA [0, 1, 2, 3] rfl
  refine va_calli (va_runV (As := [.int 0]) (rest := []) ⟨hx, hb, hml, hown, hts⟩ (c_M_isAt l dC dI h0 H.size fs fsH qh q7 q9 c7 c9 f7 f9 0) (cwV 1 hts (gV (y := yX13_isAt) _ 183 184 185 149 175 rfl rfl rfl rfl rfl) rfl rfl rfl (by decide +kernel) ⟨Nat.le_of_ble_eq_true rfl, Nat.le_of_ble_eq_true rfl⟩) ⟨fun a U g mk q => by obtain ⟨q0, q1, qJ, q7, q9, qP, qK, qD⟩ := q; exact ⟨q0, q1, qJ, q7, q9, qP, va_K.moved (u := U) (U := U.calling g mk a) (Vm.Alike.refl U.vm) qK, qD⟩, va_recv hKc hPc (ci := 13) (q0 := 0) rfl rfl, fun U hU hW => ⟨rfl, by rw [hU], kJ_sub hJ (by simp), h7, h9, by rw [hU]; exact hPc, va_K.moved hW.alike hKc, hDc.weaken (fun _ _ _ _ => trivial)⟩⟩ rfl rfl hl.1 rfl (lv_room (Nat.le_of_ble_eq_true rfl)) dX13_lineAt_2 ⟨Nat.le_of_ble_eq_true rfl, Nat.le_of_ble_eq_true rfl⟩) hS (fun q _ h => hFc q h) hFc (fun r u t H1 locs ht hvm hw hB hz1 hk1 hS => ?_)
  obtain ⟨hP1, hK1, hD1⟩ := hB
  rw [ht] at hP1
  have hK1 := va_K.moved hvm.symm hK1
  obtain ⟨hP, hD⟩ := va_join (wr := []) (w1 := [(h0, .inr (13, fs)), (qh, .inr (12, fsH)), (q7, .inl (c7, 12002, .inl f7)), (q9, .inl (c9, 12002, .inl f9))]) hP hD [0, 1, 2, 3] [] rfl rfl (by decide) (by decide) hk1 hFc hP1 hD1
  have hK := (hK.sub (tys' := []) [] rfl).app hK1
  clear hPc hDc hKc hFc hP1 hK1 hD1 hk1 hz1
  generalize H1 = H at hP hS ⊢
  have hP : va_P (dC, dI) vwCl [(h0, .inr (13, fs)), (qh, .inr (12, fsH)), (q7, .inl (c7, 12002, .inl f7)), (q9, .inl (c9, 12002, .inl f9))] H := hP
  have hD : va_D A [(h0, .inr (13, fs)), (qh, .inr (12, fsH)), (q7, .inl (c7, 12002, .inl f7)), (q9, .inl (c9, 12002, .inl f9))] := hD
  have hK : va_K (dC, dI) vwCl [(c7, .int), (c9, .int)] s := hK
  subst hw
  refine lv_if_eq (tgt := 19) hx hb dX13_lineAt_5 (by decide) (fun _ => ?_) (fun h => absurd h (by decide))
  refine lv_aload_n hx hb dX13_lineAt_19 rfl (lv_at hl 0 rfl) ?_
  refine lv_iconst (v := 2) hx hb dX13_lineAt_20 (by decide) ?_
  have hPc := hP.sub (ws' := [(h0, .inr (13, fs)), (qh, .inr (12, fsH)), (q7, .inl (c7, 12002, .inl f7)), (q9, .inl (c9, 12002, .inl f9))]) [0, 1, 2, 3] rfl
  have hDc := hD.sub (ws' := [(h0, .inr (13, fs)), (qh, .inr (12, fsH)), (q7, .inl (c7, 12002, .inl f7)), (q9, .inl (c9, 12002, .inl f9))]) [0, 1, 2, 3] (by decide) rfl
  have hKc := hK.sub (tys' := [(c7, .int), (c9, .int)]) [0, 1] rfl
  have hFc := va_free (wc := [(h0, .inr (13, fs)), (qh, .inr (12, fsH)), (q7, .inl (c7, 12002, .inl f7)), (q9, .inl (c9, 12002, .inl f9))]) hD hS hA [0, 1, 2, 3] rfl
  refine va_callr (va_runV (As := [.int 2]) (rest := []) ⟨hx, hb, hml, hown, hts⟩ (c_M_stop l dC dI h0 H.size fs fsH qh q7 q9 c7 c9 f7 f9 2) (cwV 1 hts (gV (y := yX13_stop) _ 186 187 188 149 179 rfl rfl rfl rfl rfl) rfl rfl rfl (by decide +kernel) ⟨Nat.le_of_ble_eq_true rfl, Nat.le_of_ble_eq_true rfl⟩) ⟨fun a U g mk q => by obtain ⟨q0, q1, qJ, q7, q9, qP, qK, qD⟩ := q; exact ⟨q0, q1, qJ, q7, q9, qP, va_K.moved (u := U) (U := U.calling g mk a) (Vm.Alike.refl U.vm) qK, qD⟩, va_recv hKc hPc (ci := 13) (q0 := 0) rfl rfl, fun U hU hW => ⟨rfl, by rw [hU], kJ_sub hJ (by simp), h7, h9, by rw [hU]; exact hPc, va_K.moved hW.alike hKc, hDc.weaken (fun _ _ _ _ => trivial)⟩⟩ rfl rfl hl.1 rfl (lv_room (Nat.le_of_ble_eq_true rfl)) dX13_lineAt_21 ⟨Nat.le_of_ble_eq_true rfl, Nat.le_of_ble_eq_true rfl⟩) hS (fun q _ h => hFc q h) hFc (fun u ra t H1 locs ht hvm hw hB hz1 hk1 hS => ?_)
  obtain ⟨hra, hB⟩ := hB
  subst hra
  obtain ⟨fs, hfs⟩ : ∃ z, z = u := ⟨_, rfl⟩
  rw [← hfs] at hB hw
  clear hfs
  have hJ : kJ 180 [(37, .int 1), (36, .int 2)] fs := hw
  obtain ⟨hP1, hK1, hD1⟩ := hB
  rw [ht] at hP1
  have hK1 := va_K.moved hvm.symm hK1
  obtain ⟨hP, hD⟩ := va_join (wr := []) (w1 := [(h0, .inr (13, fs)), (ra, .inr (12, fsH)), (q7, .inl (c7, 12002, .inl f7)), (q9, .inl (c9, 12002, .inl f9))]) hP hD [0, 1, 2, 3] [] rfl rfl (by decide) (by decide) hk1 hFc hP1 hD1
  have hK := (hK.sub (tys' := []) [] rfl).app hK1
  clear hPc hDc hKc hFc hP1 hK1 hD1 hk1 hz1
  generalize H1 = H at hP hS ⊢
  have hP : va_P (dC, dI) vwCl [(h0, .inr (13, fs)), (ra, .inr (12, fsH)), (q7, .inl (c7, 12002, .inl f7)), (q9, .inl (c9, 12002, .inl f9))] H := hP
  have hD : va_D A [(h0, .inr (13, fs)), (ra, .inr (12, fsH)), (q7, .inl (c7, 12002, .inl f7)), (q9, .inl (c9, 12002, .inl f9))] := hD
  have hK : va_K (dC, dI) vwCl [(c7, .int), (c9, .int)] s := hK
  refine k_athrow hx hb dX13_lineAt_24 ?_
  obtain ⟨r9, hr9, ce, g1, g2, g3, -⟩ := hP 1 _ rfl
  exact vx_out (fun x hx => (hnt x hx).elim) B.notSynchronized g1 g3 (by rw [g2]; exact (hK.1 12 _ rfl).2.1) (fun t ht hal => ⟨fs, hJ, ⟨rfl, by rw [ht]; exact hP, va_K.moved hal hK, hD⟩, hS.F ht⟩) hS.2.2 (Nat.le_refl _) (Nat.le_refl _)
set_option maxHeartbeats 4000000 in
set_option maxRecDepth 100000 in
/-- process(0): the end can't stand there -/
theorem c_M_process (l : Launch) (dC : Nat → ClassId) (dI : Nat → Nat → Nat) (h0 sz : Nat) (fs fsH : List Value) (qh q7 q9 : Nat) (c7 c9 : ClassId) (f7 f9 : Nat → Int32) : vx_Met l yX13_process (.code yX13_process cX13_process 5 (some .int) :: wP) ({ frames := 3, cells := 0, slots := 0, locals := 64 }) (va_Pc [.ref h0, .int 0] (fun U => U.heap.size = sz ∧ kJ 180 [(0, .ref qh), (7, .ref q7), (9, .ref q9), (35, .int 0)] fs ∧ f7 0 = 75 ∧ f9 0 = 1 ∧ va_P (dC, dI) vwCl [(h0, .inr (13, fs)), (qh, .inr (12, fsH)), (q7, .inl (c7, 12002, .inl f7)), (q9, .inl (c9, 12002, .inl f9))] U.heap ∧ va_K (dC, dI) vwCl [(c7, .int), (c9, .int)] U ∧ va_D (fun _ => True) [(h0, .inr (13, fs)), (qh, .inr (12, fsH)), (q7, .inl (c7, 12002, .inl f7)), (q9, .inl (c9, 12002, .inl f9))])) (va_Qi (fun (_ : Int32) (_ : Unit) => False) (fun (_ : Unit) (_ : State) => True) (va_A [(h0, .inr (13, fs)), (qh, .inr (12, fsH)), (q7, .inl (c7, 12002, .inl f7)), (q9, .inl (c9, 12002, .inl f9))] sz)) (vx_X (fun u : List Value => kJ 180 [(37, .int 1), (36, .int 2)] u) (fun (E : String) (u : List Value) (t : State) => E = RX12 ∧ va_P (dC, dI) vwCl [(h0, .inr (13, u)), (qh, .inr (12, fsH)), (q7, .inl (c7, 12002, .inl f7)), (q9, .inl (c9, 12002, .inl f9))] t.heap ∧ va_K (dC, dI) vwCl [(c7, .int), (c9, .int)] t ∧ va_D (va_A [(h0, .inr (13, fs)), (qh, .inr (12, fsH)), (q7, .inl (c7, 12002, .inl f7)), (q9, .inl (c9, 12002, .inl f9))] sz) [(h0, .inr (13, u)), (qh, .inr (12, fsH)), (q7, .inl (c7, 12002, .inl f7)), (q9, .inl (c9, 12002, .inl f9))]) (va_A [(h0, .inr (13, fs)), (qh, .inr (12, fsH)), (q7, .inl (c7, 12002, .inl f7)), (q9, .inl (c9, 12002, .inl f9))] sz)) 0 0 (va_A [(h0, .inr (13, fs)), (qh, .inr (12, fsH)), (q7, .inl (c7, 12002, .inl f7)), (q9, .inl (c9, 12002, .inl f9))] sz) := by
  refine vx_ofW (cc := cX13_process) (maxL := 5) (ret := (some .int)) (by decide) rfl ?_
  intro p e s m args below meth c s₁ B hml hnt hv
  obtain ⟨rfl, hsz, hJ, h7, h9, hP, hK, hD0⟩ := hv
  have hx := B.exec
  have hb := B.bytes
  have hr := B.returns
  have hts := atoms_spec (ws := .code yX13_process cX13_process 5 (some .int) :: wP) B.pre
  have hown : s.vm.findClass RX13 = some m.cls := findClass_of_methodNamed B.named
  subst hsz
  have hD := hD0.self (sz := s.heap.size)
  generalize hAe : va_A [(h0, .inr (13, fs)), (qh, .inr (12, fsH)), (q7, .inl (c7, 12002, .inl f7)), (q9, .inl (c9, 12002, .inl f9))] s.heap.size = A at hD ⊢
  have hA : ∀ q : Nat, s.heap.size ≤ q → A q := fun q h => by rw [← hAe]; exact Or.inr h
  have hS : va_S A s.heap s.heap [] := va_S.rf
  have hl := lv_entry ([.ref h0, .int 0]) (n := 5) (Nat.le_of_ble_eq_true rfl)
  rw [lg_entry_eq]
  generalize (lg_sl ([.ref h0, .int 0]) ++ List.replicate (5 - (lg_sl ([.ref h0, .int 0])).length) Slot.unset).toArray = ls at hl ⊢
  obtain ⟨H, hHe⟩ : ∃ H, H = s.heap := ⟨_, rfl⟩
  rw [← hHe] at hP ⊢
  have hS : va_S A s.heap H [] := by rw [hHe]; exact hS
  have hl : lv_has ls 5 [(0, .ref h0), (1, .int 0)] := hl
  refine lv_aload_n hx hb dX13_process_0 rfl (lv_at hl 0 rfl) ?_
  refine lv_iload_n hx hb dX13_process_1 rfl (lv_at hl 1 rfl) ?_
  refine lv_iconst (v := 0) hx hb dX13_process_2 (by decide) ?_
  have hPc := hP.sub (ws' := [(h0, .inr (13, fs)), (qh, .inr (12, fsH)), (q7, .inl (c7, 12002, .inl f7)), (q9, .inl (c9, 12002, .inl f9))]) [0, 1, 2, 3] rfl
  have hDc := hD.sub (ws' := [(h0, .inr (13, fs)), (qh, .inr (12, fsH)), (q7, .inl (c7, 12002, .inl f7)), (q9, .inl (c9, 12002, .inl f9))]) [0, 1, 2, 3] (by decide) rfl
  have hKc := hK.sub (tys' := [(c7, .int), (c9, .int)]) [0, 1] rfl
  have hFc := va_free (wc := [(h0, .inr (13, fs)), (qh, .inr (12, fsH)), (q7, .inl (c7, 12002, .inl f7)), (q9, .inl (c9, 12002, .inl f9))]) hD hS hA [0, 1, 2, 3] rfl
  refine vx_callv (vx_runV (As := [.int 0, .int 0]) (rest := []) ⟨hx, hb, hml, hown, hts⟩ (c_M_lineAt l dC dI h0 H.size fs fsH qh q7 q9 c7 c9 f7 f9) (cwV 2 hts (gV (y := yX13_lineAt) _ 190 191 192 149 182 rfl rfl rfl rfl rfl) rfl rfl rfl (by decide +kernel) ⟨Nat.le_of_ble_eq_true rfl, Nat.le_of_ble_eq_true rfl⟩) ⟨fun a U g mk q => by obtain ⟨q0, q1, qJ, q7, q9, qP, qK, qD⟩ := q; exact ⟨q0, q1, qJ, q7, q9, qP, va_K.moved (u := U) (U := U.calling g mk a) (Vm.Alike.refl U.vm) qK, qD⟩, va_recv hKc hPc (ci := 13) (q0 := 0) rfl rfl, fun U hU hW => ⟨rfl, by rw [hU], kJ_sub hJ (by simp), h7, h9, by rw [hU]; exact hPc, va_K.moved hW.alike hKc, hDc.weaken (fun _ _ _ _ => trivial)⟩⟩ rfl rfl hl.1 rfl (lv_room (Nat.le_of_ble_eq_true rfl)) dX13_process_3 ⟨Nat.le_of_ble_eq_true rfl, Nat.le_of_ble_eq_true rfl⟩) hS (fun q _ h => hFc q h) hFc (fun q _ h => hFc q h) (fun E ce q9_ u t H1 locs ht hvm hw hB hz1 hk1 hS hcell hcv hcl => ?_) (fun u t H1 locs ht hvm hw hB hz1 hk1 hS => hw.elim)
  obtain ⟨hE, hB⟩ := hB
  subst hE
  obtain ⟨fs, hfs⟩ : ∃ z, z = u := ⟨_, rfl⟩
  rw [← hfs] at hB hw
  clear hfs
  have hJ : kJ 180 [(37, .int 1), (36, .int 2)] fs := hw
  obtain ⟨hP1, hK1, hD1⟩ := hB
  rw [ht] at hP1
  have hK1 := va_K.moved hvm.symm hK1
  obtain ⟨hP, hD⟩ := va_join (wr := []) (w1 := [(h0, .inr (13, fs)), (qh, .inr (12, fsH)), (q7, .inl (c7, 12002, .inl f7)), (q9, .inl (c9, 12002, .inl f9))]) hP hD [0, 1, 2, 3] [] rfl rfl (by decide) (by decide) hk1 hFc hP1 hD1
  generalize H1 = H at hP hS hcell ⊢
  have hP : va_P (dC, dI) vwCl [(h0, .inr (13, fs)), (qh, .inr (12, fsH)), (q7, .inl (c7, 12002, .inl f7)), (q9, .inl (c9, 12002, .inl f9))] H := hP
  have hD : va_D A [(h0, .inr (13, fs)), (qh, .inr (12, fsH)), (q7, .inl (c7, 12002, .inl f7)), (q9, .inl (c9, 12002, .inl f9))] := hD
  have hK : va_K (dC, dI) vwCl [(c7, .int), (c9, .int)] s := hK1
  exact vx_out (fun x hx => (hnt x hx).elim) B.notSynchronized hcell hcv hcl (fun t ht hal => ⟨fs, hJ, ⟨rfl, by rw [ht]; exact hP, va_K.moved hal hK, hD⟩, hS.F ht⟩) hS.2.2 (Nat.le_refl _) (Nat.le_refl _)
set_option maxHeartbeats 4000000 in
set_option maxRecDepth 100000 in
/-- parses() on the end alone: no -/
theorem c_M_parses (l : Launch) (dC : Nat → ClassId) (dI : Nat → Nat → Nat) (h0 sz : Nat) (fs fsH : List Value) (qh q7 q9 : Nat) (c7 c9 : ClassId) (f7 f9 : Nat → Int32) : vx_Met l yX13_parses (.codeWith yX13_parses cX13_parses 2 (some .boolean) [(20, 45, 46, 7)] :: wP) ({ frames := 4, cells := 0, slots := 0, locals := 88 }) (va_Pc [.ref h0] (fun U => U.heap.size = sz ∧ kJ 180 [(0, .ref qh), (7, .ref q7), (9, .ref q9)] fs ∧ f7 0 = 75 ∧ f9 0 = 1 ∧ va_Nw (.castable RX12 RX12) U ∧ va_P (dC, dI) vwCl [(h0, .inr (13, fs)), (qh, .inr (12, fsH)), (q7, .inl (c7, 12002, .inl f7)), (q9, .inl (c9, 12002, .inl f9))] U.heap ∧ va_K (dC, dI) vwCl [(c7, .int), (c9, .int)] U ∧ va_D (fun _ => True) [(h0, .inr (13, fs)), (qh, .inr (12, fsH)), (q7, .inl (c7, 12002, .inl f7)), (q9, .inl (c9, 12002, .inl f9))])) (va_Qi (fun (r : Int32) (u : List Value) => r = 0 ∧ kJ 180 [(37, .int 1), (36, .int 2)] u) (fun (u : List Value) (t : State) => va_P (dC, dI) vwCl [(h0, .inr (13, u)), (qh, .inr (12, fsH)), (q7, .inl (c7, 12002, .inl f7)), (q9, .inl (c9, 12002, .inl f9))] t.heap ∧ va_K (dC, dI) vwCl [(c7, .int), (c9, .int)] t ∧ va_D (va_A [(h0, .inr (13, fs)), (qh, .inr (12, fsH)), (q7, .inl (c7, 12002, .inl f7)), (q9, .inl (c9, 12002, .inl f9))] sz) [(h0, .inr (13, u)), (qh, .inr (12, fsH)), (q7, .inl (c7, 12002, .inl f7)), (q9, .inl (c9, 12002, .inl f9))]) (va_A [(h0, .inr (13, fs)), (qh, .inr (12, fsH)), (q7, .inl (c7, 12002, .inl f7)), (q9, .inl (c9, 12002, .inl f9))] sz)) (vx_X (fun _ : Unit => False) (fun (_ : String) (_ : Unit) (_ : State) => True) (va_A [(h0, .inr (13, fs)), (qh, .inr (12, fsH)), (q7, .inl (c7, 12002, .inl f7)), (q9, .inl (c9, 12002, .inl f9))] sz)) 0 0 (va_A [(h0, .inr (13, fs)), (qh, .inr (12, fsH)), (q7, .inl (c7, 12002, .inl f7)), (q9, .inl (c9, 12002, .inl f9))] sz) := by
  refine vx_ofWH (cc := cX13_parses) (maxL := 2) (ret := (some .boolean)) (hh := [(20, 45, 46, 7)]) (by decide) rfl ?_
  intro p e s m args below meth c s₁ B hml hv
  obtain ⟨rfl, hsz, hJ, h7, h9, hca, hP, hK, hD0⟩ := hv
  have hx := B.exec
  have hb := B.bytes
  have hr := B.returns
  have hts := atoms_spec (ws := .codeWith yX13_parses cX13_parses 2 (some .boolean) [(20, 45, 46, 7)] :: wP) B.pre
  have hown : s.vm.findClass RX13 = some m.cls := findClass_of_methodNamed B.named
  subst hsz
  have hD := hD0.self (sz := s.heap.size)
  generalize hAe : va_A [(h0, .inr (13, fs)), (qh, .inr (12, fsH)), (q7, .inl (c7, 12002, .inl f7)), (q9, .inl (c9, 12002, .inl f9))] s.heap.size = A at hD ⊢
  have hA : ∀ q : Nat, s.heap.size ≤ q → A q := fun q h => by rw [← hAe]; exact Or.inr h
  have hS : va_S A s.heap s.heap [] := va_S.rf
  have hl := lv_entry ([.ref h0]) (n := 2) (Nat.le_of_ble_eq_true rfl)
  rw [lg_entry_eq]
  generalize (lg_sl ([.ref h0]) ++ List.replicate (2 - (lg_sl ([.ref h0])).length) Slot.unset).toArray = ls at hl ⊢
  obtain ⟨H, hHe⟩ : ∃ H, H = s.heap := ⟨_, rfl⟩
  rw [← hHe] at hP ⊢
  have hS : va_S A s.heap H [] := by rw [hHe]; exact hS
  have hl : lv_has ls 2 [(0, .ref h0)] := hl
  have htab : c.exceptionTable.toList = tableOf [(20, 45, 46, 7)] := vx_table (x := yX13_parses) B (hts _ List.mem_cons_self)
  refine lv_aload_n hx hb dX13_parses_0 rfl (lv_at hl 0 rfl) ?_
  refine lv_iconst (v := 0) hx hb dX13_parses_1 (by decide) ?_
  refine kq_put [(25, .int 0), (0, .ref qh), (7, .ref q7), (9, .ref q9)] hts iX13 tyX13 tyX13_ok nmX13 hx hb hown hK hP hD hS 0 rfl rfl hJ 25 (by decide) (by decide) (hts _ (bP 194 rfl)) rfl (ty := .int) (by decide +kernel) (v := .int 0) rfl rfl dX13_parses_2 (fun f h => kJ_put h _ _ (by decide)) (fun H locs fs hJ hP hD hS => ?_)
  have hP : va_P (dC, dI) vwCl [(h0, .inr (13, fs)), (qh, .inr (12, fsH)), (q7, .inl (c7, 12002, .inl f7)), (q9, .inl (c9, 12002, .inl f9))] H := hP
  have hD : va_D A [(h0, .inr (13, fs)), (qh, .inr (12, fsH)), (q7, .inl (c7, 12002, .inl f7)), (q9, .inl (c9, 12002, .inl f9))] := hD
  refine lv_aload_n hx hb dX13_parses_5 rfl (lv_at hl 0 rfl) ?_
  refine lv_iconst (v := 0) hx hb dX13_parses_6 (by decide) ?_
  refine kq_put [(35, .int 0), (25, .int 0), (0, .ref qh), (7, .ref q7), (9, .ref q9)] hts iX13 tyX13 tyX13_ok nmX13 hx hb hown hK hP hD hS 0 rfl rfl hJ 35 (by decide) (by decide) (hts _ (bP 174 rfl)) rfl (ty := .int) (by decide +kernel) (v := .int 0) rfl rfl dX13_parses_7 (fun f h => kJ_put h _ _ (by decide)) (fun H locs fs hJ hP hD hS => ?_)
  have hP : va_P (dC, dI) vwCl [(h0, .inr (13, fs)), (qh, .inr (12, fsH)), (q7, .inl (c7, 12002, .inl f7)), (q9, .inl (c9, 12002, .inl f9))] H := hP
  have hD : va_D A [(h0, .inr (13, fs)), (qh, .inr (12, fsH)), (q7, .inl (c7, 12002, .inl f7)), (q9, .inl (c9, 12002, .inl f9))] := hD
  refine lv_aload_n hx hb dX13_parses_10 rfl (lv_at hl 0 rfl) ?_
  refine lv_iconst (v := 0) hx hb dX13_parses_11 (by decide) ?_
  refine kq_put [(38, .int 0), (35, .int 0), (25, .int 0), (0, .ref qh), (7, .ref q7), (9, .ref q9)] hts iX13 tyX13 tyX13_ok nmX13 hx hb hown hK hP hD hS 0 rfl rfl hJ 38 (by decide) (by decide) (hts _ (bP 195 rfl)) rfl (ty := .int) (by decide +kernel) (v := .int 0) rfl rfl dX13_parses_12 (fun f h => kJ_put h _ _ (by decide)) (fun H locs fs hJ hP hD hS => ?_)
  have hP : va_P (dC, dI) vwCl [(h0, .inr (13, fs)), (qh, .inr (12, fsH)), (q7, .inl (c7, 12002, .inl f7)), (q9, .inl (c9, 12002, .inl f9))] H := hP
  have hD : va_D A [(h0, .inr (13, fs)), (qh, .inr (12, fsH)), (q7, .inl (c7, 12002, .inl f7)), (q9, .inl (c9, 12002, .inl f9))] := hD
  refine lv_aload_n hx hb dX13_parses_15 rfl (lv_at hl 0 rfl) ?_
  refine lv_iconst (v := 0) hx hb dX13_parses_16 (by decide) ?_
  refine kq_put [(36, .int 0), (38, .int 0), (35, .int 0), (25, .int 0), (0, .ref qh), (7, .ref q7), (9, .ref q9)] hts iX13 tyX13 tyX13_ok nmX13 hx hb hown hK hP hD hS 0 rfl rfl hJ 36 (by decide) (by decide) (hts _ (bP 180 rfl)) rfl (ty := .int) (by decide +kernel) (v := .int 0) rfl rfl dX13_parses_17 (fun f h => kJ_put h _ _ (by decide)) (fun H locs fs hJ hP hD hS => ?_)
  have hP : va_P (dC, dI) vwCl [(h0, .inr (13, fs)), (qh, .inr (12, fsH)), (q7, .inl (c7, 12002, .inl f7)), (q9, .inl (c9, 12002, .inl f9))] H := hP
  have hD : va_D A [(h0, .inr (13, fs)), (qh, .inr (12, fsH)), (q7, .inl (c7, 12002, .inl f7)), (q9, .inl (c9, 12002, .inl f9))] := hD
  refine lv_aload_n hx hb dX13_parses_20 rfl (lv_at hl 0 rfl) ?_
  refine lv_aload_n hx hb dX13_parses_21 rfl (lv_at hl 0 rfl) ?_
  refine lv_iconst (v := 0) hx hb dX13_parses_22 (by decide) ?_
  have hPc := hP.sub (ws' := [(h0, .inr (13, fs)), (qh, .inr (12, fsH)), (q7, .inl (c7, 12002, .inl f7)), (q9, .inl (c9, 12002, .inl f9))]) [0, 1, 2, 3] rfl
  have hDc := hD.sub (ws' := [(h0, .inr (13, fs)), (qh, .inr (12, fsH)), (q7, .inl (c7, 12002, .inl f7)), (q9, .inl (c9, 12002, .inl f9))]) [0, 1, 2, 3] (by decide) rfl
  have hKc := hK.sub (tys' := [(c7, .int), (c9, .int)]) [0, 1] rfl
  have hFc := va_free (wc := [(h0, .inr (13, fs)), (qh, .inr (12, fsH)), (q7, .inl (c7, 12002, .inl f7)), (q9, .inl (c9, 12002, .inl f9))]) hD hS hA [0, 1, 2, 3] rfl
  refine vx_calli (vx_runV (As := [.int 0]) (rest := [.ref h0]) ⟨hx, hb, hml, hown, hts⟩ (c_M_process l dC dI h0 H.size fs fsH qh q7 q9 c7 c9 f7 f9) (cwV 1 hts (gV (y := yX13_process) _ 196 197 198 149 189 rfl rfl rfl rfl rfl) rfl rfl rfl (by decide +kernel) ⟨Nat.le_of_ble_eq_true rfl, Nat.le_of_ble_eq_true rfl⟩) ⟨fun a U g mk q => by obtain ⟨q0, q1, qJ, q7, q9, qP, qK, qD⟩ := q; exact ⟨q0, q1, qJ, q7, q9, qP, va_K.moved (u := U) (U := U.calling g mk a) (Vm.Alike.refl U.vm) qK, qD⟩, va_recv hKc hPc (ci := 13) (q0 := 0) rfl rfl, fun U hU hW => ⟨rfl, by rw [hU], kJ_sub hJ (by simp), h7, h9, by rw [hU]; exact hPc, va_K.moved hW.alike hKc, hDc.weaken (fun _ _ _ _ => trivial)⟩⟩ rfl rfl hl.1 rfl (lv_room (Nat.le_of_ble_eq_true rfl)) dX13_parses_23 ⟨Nat.le_of_ble_eq_true rfl, Nat.le_of_ble_eq_true rfl⟩) hS (fun q _ h => hFc q h) hFc (fun q _ h => hFc q h) (fun E ce q9_ u t H1 locs ht hvm hw hB hz1 hk1 hS hcell hcv hcl => ?_) (fun r u t H1 locs ht hvm hw hB hz1 hk1 hS => hw.elim)
  obtain ⟨hE, hB⟩ := hB
  subst hE
  obtain ⟨fs, hfs⟩ : ∃ z, z = u := ⟨_, rfl⟩
  rw [← hfs] at hB hw
  clear hfs
  have hJ : kJ 180 [(37, .int 1), (36, .int 2)] fs := hw
  obtain ⟨hP1, hK1, hD1⟩ := hB
  rw [ht] at hP1
  have hK1 := va_K.moved hvm.symm hK1
  obtain ⟨hP, hD⟩ := va_join (wr := []) (w1 := [(h0, .inr (13, fs)), (qh, .inr (12, fsH)), (q7, .inl (c7, 12002, .inl f7)), (q9, .inl (c9, 12002, .inl f9))]) hP hD [0, 1, 2, 3] [] rfl rfl (by decide) (by decide) hk1 hFc hP1 hD1
  generalize H1 = H at hP hS hcell ⊢
  have hP : va_P (dC, dI) vwCl [(h0, .inr (13, fs)), (qh, .inr (12, fsH)), (q7, .inl (c7, 12002, .inl f7)), (q9, .inl (c9, 12002, .inl f9))] H := hP
  have hD : va_D A [(h0, .inr (13, fs)), (qh, .inr (12, fsH)), (q7, .inl (c7, 12002, .inl f7)), (q9, .inl (c9, 12002, .inl f9))] := hD
  have hK : va_K (dC, dI) vwCl [(c7, .int), (c9, .int)] s := hK1
  refine k_catchA (own := RX13) (name := RX12) hown ⟨20, 45, 46, 7⟩ [] htab (by decide) (by decide) (hts _ (bP 3 rfl)) (va_Nw.use rfl hca) hcell hcv hcl ?_
  refine lv_astore_n (lv' := [(1, .ref q9_), (0, .ref h0)]) hx hb dX13_parses_46 rfl hl (by decide) rfl (fun ls hl => ?_)
  refine lv_iconst (v := 0) hx hb dX13_parses_47 (by decide) ?_
  refine vx_ret ?_
  exact W.zret (v := 0) hx hb hr (by decide) (fun t ht hW => ⟨⟨0, fs, rfl, ⟨rfl, hJ⟩, by rw [ht]; exact hP, va_K.moved hW.alike hK, hD⟩, hS.F ht⟩) hS.2.2 dX13_parses_48
set_option maxHeartbeats 4000000 in
set_option maxRecDepth 100000 in
/-- read() on an empty tape: fault 2 at line 1 -/
theorem c_M_read (l : Launch) (dC : Nat → ClassId) (dI : Nat → Nat → Nat) (h0 sz : Nat) (fs fsH : List Value) (qh : Nat) (q7 : Nat) (q8 : Nat) (q9 : Nat) (q10 : Nat) (c7 : ClassId) (c8 : ClassId) (c9 : ClassId) (c10 : ClassId) (f7 : Nat → Int32) (f8 : Nat → Int32) (f9 : Nat → Int32) (f10 : Nat → Int32) : Met l yX13_read (.code yX13_read cX13_read 1 (some .int) :: wP) ({ frames := 5, cells := 0, slots := 0, locals := 112 }) (va_Pc [.ref h0] (fun U => U.heap.size = sz ∧ kJ 180 [(0, .ref qh), (7, .ref q7), (8, .ref q8), (9, .ref q9), (10, .ref q10), (3, .int 0)] fs ∧ va_Nw (.castable RX12 RX12) U ∧ va_P (dC, dI) vwCl [(h0, .inr (13, fs)), (qh, .inr (12, fsH)), (q7, .inl (c7, 12002, .inl f7)), (q8, .inl (c8, 12002, .inl f8)), (q9, .inl (c9, 12002, .inl f9)), (q10, .inl (c10, 12002, .inl f10))] U.heap ∧ va_K (dC, dI) vwCl [(c7, .int), (c8, .int), (c9, .int), (c10, .int)] U ∧ va_D (fun _ => True) [(h0, .inr (13, fs)), (qh, .inr (12, fsH)), (q7, .inl (c7, 12002, .inl f7)), (q8, .inl (c8, 12002, .inl f8)), (q9, .inl (c9, 12002, .inl f9)), (q10, .inl (c10, 12002, .inl f10))])) (va_Qi (fun r (_ : Unit) => r = 18) (fun (_ : Unit) (_ : State) => True) (va_A [(h0, .inr (13, fs)), (qh, .inr (12, fsH)), (q7, .inl (c7, 12002, .inl f7)), (q8, .inl (c8, 12002, .inl f8)), (q9, .inl (c9, 12002, .inl f9)), (q10, .inl (c10, 12002, .inl f10))] sz)) 0 0 (va_A [(h0, .inr (13, fs)), (qh, .inr (12, fsH)), (q7, .inl (c7, 12002, .inl f7)), (q8, .inl (c8, 12002, .inl f8)), (q9, .inl (c9, 12002, .inl f9)), (q10, .inl (c10, 12002, .inl f10))] sz) := by
  refine Met.ofW (cc := cX13_read) (maxL := 1) (ret := (some .int)) (by decide) rfl ?_
  intro p e s m args below meth c s₁ B hml hv
  obtain ⟨rfl, hsz, hJ, hca, hP, hK, hD0⟩ := hv
  have hx := B.exec
  have hb := B.bytes
  have hr := B.returns
  have hts := atoms_spec (ws := .code yX13_read cX13_read 1 (some .int) :: wP) B.pre
  have hown : s.vm.findClass RX13 = some m.cls := findClass_of_methodNamed B.named
  subst hsz
  have hD := hD0.self (sz := s.heap.size)
  generalize hAe : va_A [(h0, .inr (13, fs)), (qh, .inr (12, fsH)), (q7, .inl (c7, 12002, .inl f7)), (q8, .inl (c8, 12002, .inl f8)), (q9, .inl (c9, 12002, .inl f9)), (q10, .inl (c10, 12002, .inl f10))] s.heap.size = A at hD ⊢
  have hA : ∀ q : Nat, s.heap.size ≤ q → A q := fun q h => by rw [← hAe]; exact Or.inr h
  have hS : va_S A s.heap s.heap [] := va_S.rf
  have hl := lv_entry ([.ref h0]) (n := 1) (Nat.le_of_ble_eq_true rfl)
  rw [lg_entry_eq]
  generalize (lg_sl ([.ref h0]) ++ List.replicate (1 - (lg_sl ([.ref h0])).length) Slot.unset).toArray = ls at hl ⊢
  obtain ⟨H, hHe⟩ : ∃ H, H = s.heap := ⟨_, rfl⟩
  rw [← hHe] at hP ⊢
  have hS : va_S A s.heap H [] := by rw [hHe]; exact hS
  have hl : lv_has ls 1 [(0, .ref h0)] := hl
  refine lv_aload_n hx hb dX13_read_0 rfl (lv_at hl 0 rfl) ?_
  refine lv_iconst (v := 0) hx hb dX13_read_1 (by decide) ?_
  refine kq_put [(1, .int 0), (0, .ref qh), (7, .ref q7), (8, .ref q8), (9, .ref q9), (10, .ref q10), (3, .int 0)] hts iX13 tyX13 tyX13_ok nmX13 hx hb hown hK hP hD hS 0 rfl rfl hJ 1 (by decide) (by decide) (hts _ (bP 135 rfl)) rfl (ty := .int) (by decide +kernel) (v := .int 0) rfl rfl dX13_read_2 (fun f h => kJ_put h _ _ (by decide)) (fun H locs fs hJ hP hD hS => ?_)
  have hP : va_P (dC, dI) vwCl [(h0, .inr (13, fs)), (qh, .inr (12, fsH)), (q7, .inl (c7, 12002, .inl f7)), (q8, .inl (c8, 12002, .inl f8)), (q9, .inl (c9, 12002, .inl f9)), (q10, .inl (c10, 12002, .inl f10))] H := hP
  have hD : va_D A [(h0, .inr (13, fs)), (qh, .inr (12, fsH)), (q7, .inl (c7, 12002, .inl f7)), (q8, .inl (c8, 12002, .inl f8)), (q9, .inl (c9, 12002, .inl f9)), (q10, .inl (c10, 12002, .inl f10))] := hD
  refine lv_aload_n hx hb dX13_read_5 rfl (lv_at hl 0 rfl) ?_
  have hPc := hP.sub (ws' := [(h0, .inr (13, fs)), (q7, .inl (c7, 12002, .inl f7)), (q8, .inl (c8, 12002, .inl f8)), (q9, .inl (c9, 12002, .inl f9)), (q10, .inl (c10, 12002, .inl f10))]) [0, 2, 3, 4, 5] rfl
  have hDc := hD.sub (ws' := [(h0, .inr (13, fs)), (q7, .inl (c7, 12002, .inl f7)), (q8, .inl (c8, 12002, .inl f8)), (q9, .inl (c9, 12002, .inl f9)), (q10, .inl (c10, 12002, .inl f10))]) [0, 2, 3, 4, 5] (by decide) rfl
  have hKc := hK.sub (tys' := [(c7, .int), (c8, .int), (c9, .int), (c10, .int)]) [0, 1, 2, 3] rfl
  have hFc := va_free (wc := [(h0, .inr (13, fs)), (q7, .inl (c7, 12002, .inl f7)), (q8, .inl (c8, 12002, .inl f8)), (q9, .inl (c9, 12002, .inl f9)), (q10, .inl (c10, 12002, .inl f10))]) hD hS hA [0, 2, 3, 4, 5] rfl
  refine va_callv (va_runV (As := []) (rest := []) ⟨hx, hb, hml, hown, hts⟩ (c_M_scanAll l dC dI h0 H.size fs qh q7 q8 q9 q10 c7 c8 c9 c10 f7 f8 f9 f10) (cwV 0 hts (gV (y := yX13_scanAll) _ 200 201 202 149 162 rfl rfl rfl rfl rfl) rfl rfl rfl (by decide +kernel) ⟨Nat.le_of_ble_eq_true rfl, Nat.le_of_ble_eq_true rfl⟩) ⟨fun a U g mk q => by obtain ⟨q0, q1, qJ, qP, qK, qD⟩ := q; exact ⟨q0, q1, qJ, qP, va_K.moved (u := U) (U := U.calling g mk a) (Vm.Alike.refl U.vm) qK, qD⟩, va_recv hKc hPc (ci := 13) (q0 := 0) rfl rfl, fun U hU hW => ⟨rfl, by rw [hU], kJ_sub hJ (by simp), by rw [hU]; exact hPc, va_K.moved hW.alike hKc, hDc.weaken (fun _ _ _ _ => trivial)⟩⟩ rfl rfl hl.1 rfl (lv_room (Nat.le_of_ble_eq_true rfl)) dX13_read_6 ⟨Nat.le_of_ble_eq_true rfl, Nat.le_of_ble_eq_true rfl⟩) hS (fun q _ h => hFc q h) hFc (fun u t H1 locs ht hvm hw hB hz1 hk1 hS => ?_)
  obtain ⟨fs, f7, f8, f9, f10⟩ := u
  obtain ⟨hJ, h7, h9⟩ := hw
  obtain ⟨hP1, hK1, hD1⟩ := hB
  rw [ht] at hP1
  have hK1 := va_K.moved hvm.symm hK1
  obtain ⟨hP, hD⟩ := va_join (wr := [(qh, .inr (12, fsH))]) (w1 := [(h0, .inr (13, fs)), (q7, .inl (c7, 12002, .inl f7)), (q8, .inl (c8, 12002, .inl f8)), (q9, .inl (c9, 12002, .inl f9)), (q10, .inl (c10, 12002, .inl f10))]) hP hD [0, 2, 3, 4, 5] [1] rfl rfl (by decide) (by decide) hk1 hFc hP1 hD1
  have hK := (hK.sub (tys' := []) [] rfl).app hK1
  clear hPc hDc hKc hFc hP1 hK1 hD1 hk1 hz1
  generalize H1 = H at hP hS ⊢
  have hP : va_P (dC, dI) vwCl [(qh, .inr (12, fsH)), (h0, .inr (13, fs)), (q7, .inl (c7, 12002, .inl f7)), (q8, .inl (c8, 12002, .inl f8)), (q9, .inl (c9, 12002, .inl f9)), (q10, .inl (c10, 12002, .inl f10))] H := hP
  have hD : va_D A [(qh, .inr (12, fsH)), (h0, .inr (13, fs)), (q7, .inl (c7, 12002, .inl f7)), (q8, .inl (c8, 12002, .inl f8)), (q9, .inl (c9, 12002, .inl f9)), (q10, .inl (c10, 12002, .inl f10))] := hD
  have hK : va_K (dC, dI) vwCl [(c7, .int), (c8, .int), (c9, .int), (c10, .int)] s := hK
  refine lv_aload_n hx hb dX13_read_9 rfl (lv_at hl 0 rfl) ?_
  refine lv_iconst (v := 0) hx hb dX13_read_10 (by decide) ?_
  refine kq_put [(3, .int 0), (0, .ref qh), (7, .ref q7), (8, .ref q8), (9, .ref q9), (10, .ref q10)] hts iX13 tyX13 tyX13_ok nmX13 hx hb hown hK hP hD hS 1 rfl rfl hJ 3 (by decide) (by decide) (hts _ (bP 139 rfl)) rfl (ty := .int) (by decide +kernel) (v := .int 0) rfl rfl dX13_read_11 (fun f h => kJ_put h _ _ (by decide)) (fun H locs fs hJ hP hD hS => ?_)
  have hP : va_P (dC, dI) vwCl [(qh, .inr (12, fsH)), (h0, .inr (13, fs)), (q7, .inl (c7, 12002, .inl f7)), (q8, .inl (c8, 12002, .inl f8)), (q9, .inl (c9, 12002, .inl f9)), (q10, .inl (c10, 12002, .inl f10))] H := hP
  have hD : va_D A [(qh, .inr (12, fsH)), (h0, .inr (13, fs)), (q7, .inl (c7, 12002, .inl f7)), (q8, .inl (c8, 12002, .inl f8)), (q9, .inl (c9, 12002, .inl f9)), (q10, .inl (c10, 12002, .inl f10))] := hD
  refine lv_aload_n hx hb dX13_read_14 rfl (lv_at hl 0 rfl) ?_
  refine lv_iconst (v := 0) hx hb dX13_read_15 (by decide) ?_
  refine kq_put [(110, .int 0), (3, .int 0), (0, .ref qh), (7, .ref q7), (8, .ref q8), (9, .ref q9), (10, .ref q10)] hts iX13 tyX13 tyX13_ok nmX13 hx hb hown hK hP hD hS 1 rfl rfl hJ 110 (by decide) (by decide) (hts _ (bP 141 rfl)) rfl (ty := .boolean) (by decide +kernel) (v := .int 0) (by decide) (by decide) dX13_read_16 (fun f h => kJ_put h _ _ (by decide)) (fun H locs fs hJ hP hD hS => ?_)
  have hP : va_P (dC, dI) vwCl [(qh, .inr (12, fsH)), (h0, .inr (13, fs)), (q7, .inl (c7, 12002, .inl f7)), (q8, .inl (c8, 12002, .inl f8)), (q9, .inl (c9, 12002, .inl f9)), (q10, .inl (c10, 12002, .inl f10))] H := hP
  have hD : va_D A [(qh, .inr (12, fsH)), (h0, .inr (13, fs)), (q7, .inl (c7, 12002, .inl f7)), (q8, .inl (c8, 12002, .inl f8)), (q9, .inl (c9, 12002, .inl f9)), (q10, .inl (c10, 12002, .inl f10))] := hD
  refine lv_aload_n hx hb dX13_read_19 rfl (lv_at hl 0 rfl) ?_
  refine lv_iconst (v := 0) hx hb dX13_read_20 (by decide) ?_
  refine kq_put [(123, .int 0), (110, .int 0), (3, .int 0), (0, .ref qh), (7, .ref q7), (8, .ref q8), (9, .ref q9), (10, .ref q10)] hts iX13 tyX13 tyX13_ok nmX13 hx hb hown hK hP hD hS 1 rfl rfl hJ 123 (by decide) (by decide) (hts _ (bP 136 rfl)) rfl (ty := .boolean) (by decide +kernel) (v := .int 0) (by decide) (by decide) dX13_read_21 (fun f h => kJ_put h _ _ (by decide)) (fun H locs fs hJ hP hD hS => ?_)
  have hP : va_P (dC, dI) vwCl [(qh, .inr (12, fsH)), (h0, .inr (13, fs)), (q7, .inl (c7, 12002, .inl f7)), (q8, .inl (c8, 12002, .inl f8)), (q9, .inl (c9, 12002, .inl f9)), (q10, .inl (c10, 12002, .inl f10))] H := hP
  have hD : va_D A [(qh, .inr (12, fsH)), (h0, .inr (13, fs)), (q7, .inl (c7, 12002, .inl f7)), (q8, .inl (c8, 12002, .inl f8)), (q9, .inl (c9, 12002, .inl f9)), (q10, .inl (c10, 12002, .inl f10))] := hD
  refine lv_aload_n hx hb dX13_read_24 rfl (lv_at hl 0 rfl) ?_
  have hPc := hP.sub (ws' := [(h0, .inr (13, fs)), (qh, .inr (12, fsH)), (q7, .inl (c7, 12002, .inl f7)), (q9, .inl (c9, 12002, .inl f9))]) [1, 0, 2, 4] rfl
  have hDc := hD.sub (ws' := [(h0, .inr (13, fs)), (qh, .inr (12, fsH)), (q7, .inl (c7, 12002, .inl f7)), (q9, .inl (c9, 12002, .inl f9))]) [1, 0, 2, 4] (by decide) rfl
  have hKc := hK.sub (tys' := [(c7, .int), (c9, .int)]) [0, 2] rfl
  have hFc := va_free (wc := [(h0, .inr (13, fs)), (qh, .inr (12, fsH)), (q7, .inl (c7, 12002, .inl f7)), (q9, .inl (c9, 12002, .inl f9))]) hD hS hA [1, 0, 2, 4] rfl
  refine vx_calli (vx_runVX (As := []) (rest := []) ⟨hx, hb, hml, hown, hts⟩ (c_M_parses l dC dI h0 H.size fs fsH qh q7 q9 c7 c9 f7 f9) (vx_cwVW 0 hts (gV (y := yX13_parses) _ 203 204 205 149 193 rfl rfl rfl rfl rfl) rfl rfl rfl (by decide +kernel) ⟨Nat.le_of_ble_eq_true rfl, Nat.le_of_ble_eq_true rfl⟩) ⟨fun a U g mk q => by obtain ⟨q0, q1, qJ, q7, q9, qca, qP, qK, qD⟩ := q; exact ⟨q0, q1, qJ, q7, q9, va_Nw.same (u := U) (U := U.calling g mk a) rfl rfl qca, qP, va_K.moved (u := U) (U := U.calling g mk a) (Vm.Alike.refl U.vm) qK, qD⟩, va_recv hKc hPc (ci := 13) (q0 := 0) rfl rfl, fun U hU hW => ⟨rfl, by rw [hU], kJ_sub hJ (by simp), h7, h9, va_Nw.warmC hW hca, by rw [hU]; exact hPc, va_K.moved hW.alike hKc, hDc.weaken (fun _ _ _ _ => trivial)⟩⟩ rfl rfl hl.1 rfl (lv_room (Nat.le_of_ble_eq_true rfl)) dX13_read_25 ⟨Nat.le_of_ble_eq_true rfl, Nat.le_of_ble_eq_true rfl⟩) hS (fun q _ h => hFc q h) hFc (fun q _ h => hFc q h) (fun E ce q9_ u t H1 locs ht hvm hw hB hz1 hk1 hS hcell hcv hcl => hw.elim) (fun r u t H1 locs ht hvm hw hB hz1 hk1 hS => ?_)
  obtain ⟨hr0, hw⟩ := hw
  subst hr0
  obtain ⟨fs, hfs⟩ : ∃ z, z = u := ⟨_, rfl⟩
  rw [← hfs] at hB hw
  clear hfs
  have hJ : kJ 180 [(37, .int 1), (36, .int 2)] fs := hw
  obtain ⟨hP1, hK1, hD1⟩ := hB
  rw [ht] at hP1
  have hK1 := va_K.moved hvm.symm hK1
  obtain ⟨hP, hD⟩ := va_join (wr := [(q8, .inl (c8, 12002, .inl f8)), (q10, .inl (c10, 12002, .inl f10))]) (w1 := [(h0, .inr (13, fs)), (qh, .inr (12, fsH)), (q7, .inl (c7, 12002, .inl f7)), (q9, .inl (c9, 12002, .inl f9))]) hP hD [1, 0, 2, 4] [3, 5] rfl rfl (by decide) (by decide) hk1 hFc hP1 hD1
  have hK := (hK.sub (tys' := [(c8, .int), (c10, .int)]) [1, 3] rfl).app hK1
  clear hPc hDc hKc hFc hP1 hK1 hD1 hk1 hz1
  generalize H1 = H at hP hS ⊢
  have hP : va_P (dC, dI) vwCl [(q8, .inl (c8, 12002, .inl f8)), (q10, .inl (c10, 12002, .inl f10)), (h0, .inr (13, fs)), (qh, .inr (12, fsH)), (q7, .inl (c7, 12002, .inl f7)), (q9, .inl (c9, 12002, .inl f9))] H := hP
  have hD : va_D A [(q8, .inl (c8, 12002, .inl f8)), (q10, .inl (c10, 12002, .inl f10)), (h0, .inr (13, fs)), (qh, .inr (12, fsH)), (q7, .inl (c7, 12002, .inl f7)), (q9, .inl (c9, 12002, .inl f9))] := hD
  have hK : va_K (dC, dI) vwCl [(c8, .int), (c10, .int), (c7, .int), (c9, .int)] s := hK
  refine lv_if_ne (tgt := 44) hx hb dX13_read_28 (by decide) (fun h => absurd h (by decide)) (fun _ => ?_)
  refine lv_aload_n hx hb dX13_read_31 rfl (lv_at hl 0 rfl) ?_
  refine va_get (D := (dC, dI)) (ci := 13) (v := .int 2) (C := RX13) (T := TX13) (N := 180) hx hb hts iX13 hown hK hP 2 rfl rfl 36 (by decide) (hts _ (bP 180 rfl)) (fun _ h9 => h9) (kJ_at hJ 1 rfl) dX13_read_32 ?_
  refine lv_bipush (v := 16) hx hb dX13_read_35 (by decide) ?_
  refine lv_aload_n hx hb dX13_read_37 rfl (lv_at hl 0 rfl) ?_
  refine va_get (D := (dC, dI)) (ci := 13) (v := .int 1) (C := RX13) (T := TX13) (N := 180) hx hb hts iX13 hown hK hP 2 rfl rfl 37 (by decide) (hts _ (bP 181 rfl)) (fun _ h9 => h9) (kJ_at hJ 0 rfl) dX13_read_38 ?_
  refine lv_imul hx hb dX13_read_41 ?_
  refine k_i (v := 16) (by decide) ?_
  refine lv_iadd hx hb dX13_read_42 ?_
  refine k_i (v := 18) (by decide) ?_
  exact W.iret (v := 18) hx hb hr (fun t ht hW => ⟨⟨18, (), rfl, rfl, trivial⟩, hS.F ht⟩) hS.2.2 dX13_read_43

/-! Halt(), MeetingHouseModel() -/
def mStrs : List (Nat × String) := [(22, "AFTER"), (24, "ALT"), (26, "AND"), (28, "BOOL"), (30, "BYTE"), (32, "CASE"), (34, "CHAN"), (36, "ELSE"), (38, "FALSE"), (40, "FOR"), (42, "FUNCTION"), (44, "IF"), (46, "INT"), (48, "IS"), (50, "MINUS"), (52, "MOSTNEG"), (54, "MOSTPOS"), (56, "NOT"), (58, "OF"), (60, "OR"), (62, "PAR"), (64, "PLUS"), (66, "PRI"), (68, "PROC"), (70, "PROTOCOL"), (72, "RESULT"), (74, "SEQ"), (76, "SIZE"), (78, "SKIP"), (80, "STOP"), (82, "TIMER"), (84, "TIMES"), (86, "TRUE"), (88, "VAL"), (90, "VALOF"), (92, "WHILE"), (98, "("), (100, ")"), (102, "["), (104, "]"), (106, ","), (108, ";"), (110, ":"), (112, ":="), (114, "?"), (116, "!"), (118, "&"), (120, "="), (122, "<>"), (124, "<"), (126, "<="), (128, ">"), (130, ">="), (132, "+"), (134, "-"), (136, "*"), (138, "/"), (140, "\\"), (142, "/\\"), (144, "\\/"), (146, "><"), (148, "<<"), (150, ">>"), (152, "~")]
def mStr (A : Nat → Prop) (U : State) : Prop := ∀ (i : Nat) (x : Nat × String), mStrs[i]? = some x → ∃ q, sT RX13 A x U q
theorem mStr.moved {A B : Nat → Prop} {u U : State} (h : mStr A u) (hW : u.WarmedH U.vm) (hq : ∀ a : Nat, a < u.heap.size → ¬ A a → U.heap[a]? = u.heap[a]?) (hB : ∀ q, B q → A q) : mStr B U := fun i x hi => by
  obtain ⟨q, h⟩ := h i x hi
  exact ⟨q, h.moved hW hq hB⟩
set_option maxHeartbeats 4000000 in
set_option maxRecDepth 100000 in
/-- Halt(): an exception without a trace -/
theorem c_Halt (l : Launch) (dC : Nat → ClassId) (dI : Nat → Nat → Nat) (h0 sz : Nat) (fs : List Value) : Met l yX12_init (.code yX12_init cX12_init 1 none :: wP) ({ frames := 4, cells := 0, slots := 0, locals := 84 }) (va_Pc [.ref h0] (fun U => U.heap.size = sz ∧ kJ 6 [] fs ∧ va_P (dC, dI) vwCl [(h0, .inr (12, fs))] U.heap ∧ va_K (dC, dI) vwCl [] U ∧ va_D (fun _ => True) [(h0, .inr (12, fs))] ∧ tZ (va_A [(h0, .inr (12, fs))] sz) U U.heap ∧ ∃ qm, vk_R RX12 1 "" qm U)) (va_Qv (fun fs1 : List Value => kJ 6 [] fs1) (fun (fs1 : List Value) (t : State) => va_P (dC, dI) vwCl [(h0, .inr (12, fs1))] t.heap ∧ va_K (dC, dI) vwCl [] t ∧ va_D (va_A [(h0, .inr (12, fs))] sz) [(h0, .inr (12, fs1))]) (va_A [(h0, .inr (12, fs))] sz)) 0 0 (va_A [(h0, .inr (12, fs))] sz) := by
  refine Met.ofW (cc := cX12_init) (maxL := 1) (ret := none) (by decide) rfl ?_
  intro p e s m args below meth c s₁ B hml hv
  obtain ⟨rfl, hsz, hJ, hP, hK, hD0, hZ, qm, hqm⟩ := hv
  have hx := B.exec
  have hb := B.bytes
  have hr := B.returns
  have hts := atoms_spec (ws := .code yX12_init cX12_init 1 none :: wP) B.pre
  have hown : s.vm.findClass RX12 = some m.cls := findClass_of_methodNamed B.named
  subst hsz
  have hD := hD0.self (sz := s.heap.size)
  generalize hAe : va_A [(h0, .inr (12, fs))] s.heap.size = A at hD hZ ⊢
  have hA : ∀ q : Nat, s.heap.size ≤ q → A q := fun q h => by rw [← hAe]; exact Or.inr h
  have hS : va_S A s.heap s.heap [] := va_S.rf
  have hl := lv_entry ([.ref h0]) (n := 1) (Nat.le_of_ble_eq_true rfl)
  rw [lg_entry_eq]
  generalize (lg_sl ([.ref h0]) ++ List.replicate (1 - (lg_sl ([.ref h0])).length) Slot.unset).toArray = ls at hl ⊢
  have hl : lv_has ls 1 [(0, .ref h0)] := hl
  refine lv_aload_n hx hb dX12_init_0 rfl (lv_at hl 0 rfl) ?_
  refine va_ldcS hx hb hown hqm dX12_init_1 ?_
  refine lv_null hx hb dX12_init_3 ?_
  refine lv_iconst (v := 0) hx hb dX12_init_4 (by decide) ?_
  refine lv_iconst (v := 0) hx hb dX12_init_5 (by decide) ?_
  obtain ⟨H, hHe⟩ : ∃ H, H = s.heap := ⟨_, rfl⟩
  rw [← hHe] at hP ⊢
  have hS : va_S A s.heap H [] := by rw [hHe]; exact hS
  have hZc : tZ (va_A [(h0, .inr (12, fs))] H.size) s H := (hZ.kept (fun a h1 h2 => hS.2.1 a h1 h2)).narrow (fun q h => by
    rcases h with ⟨k, e9, h⟩ | h
    · exact hD.2 k _ h
    · exact hA q (Nat.le_trans hS.1 h))
  have hFc := va_free (wc := [(h0, .inr (12, fs))]) hD hS hA [0] rfl
  refine va_callv (va_runI (As := [.ref qm, .null, .int 0, .int 0]) (rest := []) ⟨hx, hb, hml, hown, hts⟩ (c_R4 l dC dI h0 qm H.size fs) (cwI 4 hts (gP _ 118 rfl) rfl rfl rfl (hts _ (bP 119 rfl)) (hts _ (bP 116 rfl)) (hts _ (bP 117 rfl)) rfl (by decide +kernel) ⟨Nat.le_of_ble_eq_true rfl, Nat.le_of_ble_eq_true rfl⟩) ⟨fun a U g mk q => by obtain ⟨q0, q1, qJ, qP, qK, qD, qZ⟩ := q; exact ⟨q0, q1, qJ, qP, va_K.moved (u := U) (U := U.calling g mk a) (Vm.Alike.refl U.vm) qK, qD, tZ.moved (u := U) (U := U.calling g mk a) (Vm.Alike.refl U.vm) qZ⟩, fun U hU hW => ⟨rfl, by rw [hU], hJ, by rw [hU]; exact hP, va_K.moved hW.alike hK, hD.weaken (fun _ _ _ _ => trivial), by rw [hU]; exact tZ.moved hW.alike hZc⟩⟩ rfl rfl hl.1 rfl (lv_room (Nat.le_of_ble_eq_true rfl)) dX12_init_6 ⟨by simp, by simp⟩) hS (fun q _ h => hFc q h) hFc (fun u t H1 locs ht hvm hw hB hz1 hk1 hS => ?_)
  obtain ⟨fs1, rfl⟩ : ∃ z, z = u := ⟨_, rfl⟩
  obtain ⟨hP1, hK1, hD1⟩ := hB
  rw [ht] at hP1
  have hD1 := hD1.weaken (fun _ q _ h => hFc q.1 h)
  exact W.vret hx hb hr (fun t2 ht2 hW2 => ⟨⟨fs1, rfl, hw, by rw [ht2]; exact hP1, va_K.moved hW2.alike (va_K.moved hvm.symm hK1), hD1⟩, hS.F ht2⟩) hS.2.2 dX12_init_9

/-! The class and the law: what throws, what catches -/
theorem dX11_begin_0 : decode cX11_begin 0 = .ok (.aload_n 0, 1) := by decide +kernel
theorem dX11_begin_1 : decode cX11_begin 1 = .ok (.getfield 75, 3) := by decide +kernel
theorem dX11_begin_4 : decode cX11_begin 4 = .ok (.ifCond .ne 13, 3) := by decide +kernel
theorem dX11_begin_7 : decode cX11_begin 7 = .ok (.new 128, 3) := by decide +kernel
theorem dX11_begin_10 : decode cX11_begin 10 = .ok (.dup, 1) := by decide +kernel
theorem dX11_begin_11 : decode cX11_begin 11 = .ok (.ldc 130, 2) := by decide +kernel
theorem dX11_begin_13 : decode cX11_begin 13 = .ok (.invokespecial 132, 3) := by decide +kernel
theorem dX11_begin_16 : decode cX11_begin 16 = .ok (.athrow, 1) := by decide +kernel
theorem dX11_run_0 : decode cX11_run 0 = .ok (.iload_n 1, 1) := by decide +kernel
theorem dX11_run_1 : decode cX11_run 1 = .ok (.ifCond .lt 10, 3) := by decide +kernel
theorem dX11_run_4 : decode cX11_run 4 = .ok (.iload_n 1, 1) := by decide +kernel
theorem dX11_run_5 : decode cX11_run 5 = .ok (.sipush 2000, 3) := by decide +kernel
theorem dX11_run_8 : decode cX11_run 8 = .ok (.if_icmp .le 13, 3) := by decide +kernel
theorem dX11_run_11 : decode cX11_run 11 = .ok (.new 138, 3) := by decide +kernel
theorem dX11_run_14 : decode cX11_run 14 = .ok (.dup, 1) := by decide +kernel
theorem dX11_run_15 : decode cX11_run 15 = .ok (.ldc 140, 2) := by decide +kernel
theorem dX11_run_17 : decode cX11_run 17 = .ok (.invokespecial 142, 3) := by decide +kernel
theorem dX11_run_20 : decode cX11_run 20 = .ok (.athrow, 1) := by decide +kernel
theorem dX11_run_21 : decode cX11_run 21 = .ok (.aload_n 0, 1) := by decide +kernel
theorem dX11_run_22 : decode cX11_run 22 = .ok (.getfield 71, 3) := by decide +kernel
theorem dX11_run_25 : decode cX11_run 25 = .ok (.getfield 112, 3) := by decide +kernel
theorem dX11_run_28 : decode cX11_run 28 = .ok (.ifCond .ne 13, 3) := by decide +kernel
theorem dX11_run_31 : decode cX11_run 31 = .ok (.new 128, 3) := by decide +kernel
theorem dX11_run_34 : decode cX11_run 34 = .ok (.dup, 1) := by decide +kernel
theorem dX11_run_35 : decode cX11_run 35 = .ok (.ldc 143, 2) := by decide +kernel
theorem dX11_run_37 : decode cX11_run 37 = .ok (.invokespecial 132, 3) := by decide +kernel
theorem dX11_run_40 : decode cX11_run 40 = .ok (.athrow, 1) := by decide +kernel
theorem dL_begin_0 : decode cL_begin 0 = .ok (.aload_n 0, 1) := by decide +kernel
theorem dL_begin_1 : decode cL_begin 1 = .ok (.iload_n 1, 1) := by decide +kernel
theorem dL_begin_2 : decode cL_begin 2 = .ok (.invokevirtual 7, 3) := by decide +kernel
theorem dL_begin_8 : decode cL_begin 8 = .ok (.astore_n 2, 1) := by decide +kernel
theorem dL_begin_9 : decode cL_begin 9 = .ok (.iconst 1, 1) := by decide +kernel
theorem dL_begin_10 : decode cL_begin 10 = .ok (.ireturn, 1) := by decide +kernel
theorem dL_run_0 : decode cL_run 0 = .ok (.aload_n 2, 1) := by decide +kernel
theorem dL_run_1 : decode cL_run 1 = .ok (.iconst 0, 1) := by decide +kernel
theorem dL_run_2 : decode cL_run 2 = .ok (.aload_n 0, 1) := by decide +kernel
theorem dL_run_3 : decode cL_run 3 = .ok (.iload_n 1, 1) := by decide +kernel
theorem dL_run_4 : decode cL_run 4 = .ok (.invokevirtual 15, 3) := by decide +kernel
theorem dL_run_12 : decode cL_run 12 = .ok (.astore_n 3, 1) := by decide +kernel
theorem dL_run_13 : decode cL_run 13 = .ok (.iconst 1, 1) := by decide +kernel
theorem dL_run_14 : decode cL_run 14 = .ok (.ireturn, 1) := by decide +kernel
theorem dL_run_15 : decode cL_run 15 = .ok (.astore_n 3, 1) := by decide +kernel
theorem dL_run_16 : decode cL_run 16 = .ok (.iconst 2, 1) := by decide +kernel
theorem dL_run_17 : decode cL_run 17 = .ok (.ireturn, 1) := by decide +kernel
/-- words that hold, whatever the arguments -/
def kA (L : List Cond) (U : State) : Prop := ∀ w ∈ L, w.before #[] U = true
theorem kA.same {L : List Cond} (hL : L.all (fun w => w.onTables && w.keepsCast) = true) {u U : State} (h : u.vm = U.vm) (k : kA L u) : kA L U := fun w hw => va_tabs (by have h1 := List.all_eq_true.mp hL w hw; simp only [Bool.and_eq_true] at h1; exact h1.1) h (k w hw)
theorem kA.warm {L : List Cond} (hL : L.all (fun w => w.onTables && w.keepsCast) = true) {u U : State} (hW : u.WarmedH U.vm) (k : kA L u) : kA L U := fun w hw => by
  have h1 := List.all_eq_true.mp hL w hw
  simp only [Bool.and_eq_true] at h1
  exact va_tabs h1.1 (rfl : (u.setVm U.vm).vm = U.vm) (Cond.before_shiftedCast (State.Shifted.of_warmed hW) w h1.2 (k w hw))
theorem kA.use {L : List Cond} (hL : L.all (fun w => w.onTables && w.keepsCast) = true) {u : State} {A : Array Value} (k : kA L u) : ∀ w ∈ L, w.before A u = true := fun w hw => va_tabs (by have h1 := List.all_eq_true.mp hL w hw; simp only [Bool.and_eq_true] at h1; exact h1.1) rfl (k w hw)
/-- no object of the one class is one of the other -/
def kN (X Y : String) (U : State) : Prop := ∀ c1 c2, U.vm.findClass X = some c1 → U.vm.findClass Y = some c2 → U.vm.assignable c1 c2 = false
theorem kN.moved {X Y : String} {u U : State} (hvm : u.vm.Alike U.vm) (h : kN X Y u) : kN X Y U := fun c1 c2 h1 h2 => by
  rw [hvm.assignable]
  exact h c1 c2 (by rw [← hvm.findClass]; exact h1) (by rw [← hvm.findClass]; exact h2)
theorem kN.of {X Y : String} {A : Array Value} {s : State} (h : (Cond.not (Cond.castable X Y)).before A s = true) : kN X Y s := fun c1 c2 h1 h2 => by
  simp only [Cond.before, Cond.holds, Cond.value, h1, h2] at h
  cases hb : s.vm.assignable c1 c2
  · rfl
  · simp [hb] at h
def atB : List Cond := vx_atS RX11 132 "java/lang/IllegalStateException" ["java/lang/RuntimeException", "java/lang/Exception"]
def atA : List Cond := vx_atS RX11 142 "java/lang/IllegalArgumentException" ["java/lang/RuntimeException", "java/lang/Exception"]
theorem atB_ok : atB.all (fun w => w.onTables && w.keepsCast) = true := by decide +kernel
theorem atA_ok : atA.all (fun w => w.onTables && w.keepsCast) = true := by decide +kernel
theorem atB_ot : ∀ w ∈ Cond.classLink RX11 128 "java/lang/IllegalStateException" :: Cond.initialized "java/lang/IllegalStateException" :: atB, vx_ot w = true := List.all_eq_true.mp (by decide +kernel)
theorem atA_ot : ∀ w ∈ Cond.classLink RX11 138 "java/lang/IllegalArgumentException" :: Cond.initialized "java/lang/IllegalArgumentException" :: atA, vx_ot w = true := List.all_eq_true.mp (by decide +kernel)
def zT (A : Nat → Prop) (U : State) (H : Heap) : Prop := vx_Zq Bundle.tN "UNASSIGNED_STACK" Bundle.steD A U H ∧ vx_Zq Bundle.tN "SUPPRESSED_SENTINEL" Bundle.listD A U H
theorem zT.moved {A : Nat → Prop} {u U : State} {H : Heap} (hvm : u.vm.Alike U.vm) (h : zT A u H) : zT A U H := ⟨vx_Zq.moved hvm h.1, vx_Zq.moved hvm h.2⟩
theorem zT.kept {A : Nat → Prop} {U : State} {H H1 : Heap} (h : zT A U H) (hq : ∀ a : Nat, a < H.size → ¬ A a → H1[a]? = H[a]?) : zT A U H1 := ⟨vx_Zq.kept h.1 hq, vx_Zq.kept h.2 hq⟩
theorem zT.narrow {A B : Nat → Prop} {U : State} {H : Heap} (h : zT A U H) (hAB : ∀ q, B q → A q) : zT B U H := ⟨vx_Zq.narrow h.1 hAB, vx_Zq.narrow h.2 hAB⟩
theorem va_S.FX {A : Nat → Prop} {s t : State} {H : Heap} {locs : List Loc} (h : va_S A s.heap H locs) (h1 : H.size ≤ t.heap.size) (h2 : ∀ q : Nat, q < H.size → t.heap[q]? = H[q]?) : va_F A s t := ⟨Nat.le_trans h.1 h1, fun q a b => (h2 q (Nat.lt_of_lt_of_le a h.1)).trans (h.2.1 q a b)⟩
/-- which exception run throws on a fresh object -/
def rE (x : Int32) : String := if x < 0 ∨ 2000 < x then "java/lang/IllegalArgumentException" else "java/lang/IllegalStateException"
theorem rE1 {x : Int32} (h : x < 0) : "java/lang/IllegalArgumentException" = rE x := (if_pos (Or.inl h)).symm
theorem rE2 {x : Int32} (h : ¬ x ≤ 2000) : "java/lang/IllegalArgumentException" = rE x := (if_pos (Or.inr (Int32.not_le.mp h))).symm
theorem rE3 {x : Int32} (h1 : ¬ x < 0) (h2 : x ≤ 2000) : "java/lang/IllegalStateException" = rE x := (if_neg (fun h => h.elim h1 (fun h => absurd h2 (Int32.not_le.mpr h)))).symm
set_option maxHeartbeats 4000000 in
set_option maxRecDepth 100000 in
/-- c_MeetingHouse_begin -/
theorem c_MeetingHouse_begin (l : Launch) (hst : l.stackTraces = false) (dC : Nat → ClassId) (dI : Nat → Nat → Nat) (h0 sz : Nat) (fx : List Value) (sa : Nat) (a1 : Int32) : vx_Met l yX11_begin (.code yX11_begin cX11_begin 2 none :: wP) ({ frames := 6, cells := 1, slots := 6, locals := 82 }) (va_Pc [.ref h0, .int a1] (fun U => U.heap.size = sz ∧ kJ 9 [(8, .int 0)] fx ∧ kA atB U ∧ vk_R RX11 130 "there is no program" sa U ∧ va_P (dC, dI) vwCl [(h0, .inr (11, fx))] U.heap ∧ va_K (dC, dI) vwCl [] U ∧ va_D (fun _ => True) [(h0, .inr (11, fx))] ∧ zT (va_A [(h0, .inr (11, fx))] sz) U U.heap)) (va_Qv (fun _ : Unit => False) (fun (_ : Unit) (_ : State) => True) (va_A [(h0, .inr (11, fx))] sz)) (vx_X (fun _ : Unit => True) (fun (E : String) (_ : Unit) (_ : State) => E = "java/lang/IllegalStateException") (va_A [(h0, .inr (11, fx))] sz)) 1 6 (va_A [(h0, .inr (11, fx))] sz) := by
  refine vx_ofW (cc := cX11_begin) (maxL := 2) (ret := none) (by decide) rfl ?_
  intro p e s m args below meth c s₁ B hml hnt hv
  obtain ⟨rfl, hsz, hJ, hB_, hs_sa, hP, hK, hD0, hZ⟩ := hv
  have hx := B.exec
  have hb := B.bytes
  have hr := B.returns
  have hts := atoms_spec (ws := .code yX11_begin cX11_begin 2 none :: wP) B.pre
  have hown : s.vm.findClass RX11 = some m.cls := findClass_of_methodNamed B.named
  subst hsz
  have hD := hD0.self (sz := s.heap.size)
  generalize hAe : va_A [(h0, .inr (11, fx))] s.heap.size = A at hD hZ ⊢
  have hA : ∀ q : Nat, s.heap.size ≤ q → A q := fun q h => by rw [← hAe]; exact Or.inr h
  have hS : va_S A s.heap s.heap [] := va_S.rf
  have hl := lv_entry ([.ref h0, .int a1]) (n := 2) (Nat.le_of_ble_eq_true rfl)
  rw [lg_entry_eq]
  generalize (lg_sl ([.ref h0, .int a1]) ++ List.replicate (2 - (lg_sl ([.ref h0, .int a1])).length) Slot.unset).toArray = ls at hl ⊢
  obtain ⟨H, hHe⟩ : ∃ H, H = s.heap := ⟨_, rfl⟩
  rw [← hHe] at hP ⊢
  have hS : va_S A s.heap H [] := by rw [hHe]; exact hS
  have hl : lv_has ls 2 [(0, .ref h0), (1, .int a1)] := hl
  refine lv_aload_n hx hb dX11_begin_0 rfl (lv_at hl 0 rfl) ?_
  refine va_get (D := (dC, dI)) (ci := 11) (v := .int 0) (C := RX11) (T := TX11) (N := 9) hx hb hts iX11 hown hK hP 0 rfl rfl 8 (by decide) (hts _ (bP 388 rfl)) (fun _ h9 => h9) (kJ_at hJ 0 rfl) dX11_begin_1 ?_
  refine lv_if_ne (tgt := 17) hx hb dX11_begin_4 (by decide) (fun h => absurd h (by decide)) (fun _ => ?_)
  exact vx_throwS (own := RX11) (cls := "java/lang/IllegalStateException") (text := "there is no program") (names := ["java/lang/RuntimeException", "java/lang/Exception"]) (ik := 128) (is := 130) (ic := 132) hx hb hst hown (by decide +kernel) (by decide +kernel) (hts _ (bP 430 rfl)) (hts _ (bP 431 rfl)) hs_sa (kA.use atB_ok hB_) atB_ot hZ.1 hZ.2 hS (hl.1.trans hml.symm) dX11_begin_7 dX11_begin_10 dX11_begin_11 dX11_begin_13 dX11_begin_16 (fun x hx => (hnt x hx).elim) (Nat.le_of_ble_eq_true rfl) (Nat.le_of_ble_eq_true rfl) (Nat.le_of_ble_eq_true rfl) (Nat.le_of_ble_eq_true rfl) B.notSynchronized (fun t hv_ ha_ hb_ => ⟨(), trivial, rfl, hS.FX ha_ hb_⟩) hS.2.2 (Nat.le_of_ble_eq_true rfl) (Nat.le_of_ble_eq_true rfl)
set_option maxHeartbeats 4000000 in
set_option maxRecDepth 100000 in
/-- c_MeetingHouse_run -/
theorem c_MeetingHouse_run (l : Launch) (hst : l.stackTraces = false) (dC : Nat → ClassId) (dI : Nat → Nat → Nat) (h0 sz : Nat) (fx fm : List Value) (qm sa sb : Nat) (a1 : Int32) : vx_Met l yX11_run (.code yX11_run cX11_run 3 (some .int) :: wP) ({ frames := 6, cells := 1, slots := 6, locals := 82 }) (va_Pc [.ref h0, .int a1] (fun U => U.heap.size = sz ∧ kJ 9 [(7, .ref qm)] fx ∧ kJ 21 [(0, .int 0)] fm ∧ kA atB U ∧ kA atA U ∧ vk_R RX11 140 "not 0 .. 2000 steps" sa U ∧ vk_R RX11 143 "no run has begun" sb U ∧ va_P (dC, dI) vwCl [(h0, .inr (11, fx)), (qm, .inr (3, fm))] U.heap ∧ va_K (dC, dI) vwCl [] U ∧ va_D (fun _ => True) [(h0, .inr (11, fx)), (qm, .inr (3, fm))] ∧ zT (va_A [(h0, .inr (11, fx)), (qm, .inr (3, fm))] sz) U U.heap)) (va_Qi (fun (_ : Int32) (_ : Unit) => False) (fun (_ : Unit) (_ : State) => True) (va_A [(h0, .inr (11, fx)), (qm, .inr (3, fm))] sz)) (vx_X (fun _ : Unit => True) (fun (E : String) (_ : Unit) (_ : State) => E = rE a1) (va_A [(h0, .inr (11, fx)), (qm, .inr (3, fm))] sz)) 1 6 (va_A [(h0, .inr (11, fx)), (qm, .inr (3, fm))] sz) := by
  refine vx_ofW (cc := cX11_run) (maxL := 3) (ret := (some .int)) (by decide) rfl ?_
  intro p e s m args below meth c s₁ B hml hnt hv
  obtain ⟨rfl, hsz, hJ, hM, hB_, hA_, hs_sa, hs_sb, hP, hK, hD0, hZ⟩ := hv
  have hx := B.exec
  have hb := B.bytes
  have hr := B.returns
  have hts := atoms_spec (ws := .code yX11_run cX11_run 3 (some .int) :: wP) B.pre
  have hown : s.vm.findClass RX11 = some m.cls := findClass_of_methodNamed B.named
  subst hsz
  have hD := hD0.self (sz := s.heap.size)
  generalize hAe : va_A [(h0, .inr (11, fx)), (qm, .inr (3, fm))] s.heap.size = A at hD hZ ⊢
  have hA : ∀ q : Nat, s.heap.size ≤ q → A q := fun q h => by rw [← hAe]; exact Or.inr h
  have hS : va_S A s.heap s.heap [] := va_S.rf
  have hl := lv_entry ([.ref h0, .int a1]) (n := 3) (Nat.le_of_ble_eq_true rfl)
  rw [lg_entry_eq]
  generalize (lg_sl ([.ref h0, .int a1]) ++ List.replicate (3 - (lg_sl ([.ref h0, .int a1])).length) Slot.unset).toArray = ls at hl ⊢
  obtain ⟨H, hHe⟩ : ∃ H, H = s.heap := ⟨_, rfl⟩
  rw [← hHe] at hP ⊢
  have hS : va_S A s.heap H [] := by rw [hHe]; exact hS
  have hl : lv_has ls 3 [(0, .ref h0), (1, .int a1)] := hl
  refine lv_iload_n hx hb dX11_run_0 rfl (lv_at hl 1 rfl) ?_
  refine lv_if_lt (tgt := 11) hx hb dX11_run_1 (by decide) (fun h1 => ?_) (fun h1 => ?_)
  · exact vx_throwS (own := RX11) (cls := "java/lang/IllegalArgumentException") (text := "not 0 .. 2000 steps") (names := ["java/lang/RuntimeException", "java/lang/Exception"]) (ik := 138) (is := 140) (ic := 142) hx hb hst hown (by decide +kernel) (by decide +kernel) (hts _ (bP 433 rfl)) (hts _ (bP 434 rfl)) hs_sa (kA.use atA_ok hA_) atA_ot hZ.1 hZ.2 hS (hl.1.trans hml.symm) dX11_run_11 dX11_run_14 dX11_run_15 dX11_run_17 dX11_run_20 (fun x hx => (hnt x hx).elim) (Nat.le_of_ble_eq_true rfl) (Nat.le_of_ble_eq_true rfl) (Nat.le_of_ble_eq_true rfl) (Nat.le_of_ble_eq_true rfl) B.notSynchronized (fun t hv_ ha_ hb_ => ⟨(), trivial, by first | exact rE1 h1 | exact rE2 h8, hS.FX ha_ hb_⟩) hS.2.2 (Nat.le_of_ble_eq_true rfl) (Nat.le_of_ble_eq_true rfl)
  · refine lv_iload_n hx hb dX11_run_4 rfl (lv_at hl 1 rfl) ?_
    refine lv_sipush (v := 2000) hx hb dX11_run_5 (by decide) ?_
    refine lv_icmp_le (tgt := 21) hx hb dX11_run_8 (by decide) (fun h8 => ?_) (fun h8 => ?_)
    · refine lv_aload_n hx hb dX11_run_21 rfl (lv_at hl 0 rfl) ?_
      refine va_get (D := (dC, dI)) (ci := 11) (v := .ref qm) (C := RX11) (T := TX11) (N := 9) hx hb hts iX11 hown hK hP 0 rfl rfl 7 (by decide) (hts _ (bP 387 rfl)) (fun _ h9 => h9) (kJ_at hJ 0 rfl) dX11_run_22 ?_
      refine va_get (D := (dC, dI)) (ci := 3) (v := .int 0) (C := RX3) (T := TX3) (N := 21) hx hb hts iX3 hown hK hP 1 rfl rfl 0 (by decide) (hts _ (bP 435 rfl)) (fun _ h9 => h9) (kJ_at hM 0 rfl) dX11_run_25 ?_
      refine lv_if_ne (tgt := 41) hx hb dX11_run_28 (by decide) (fun h => absurd h (by decide)) (fun _ => ?_)
      exact vx_throwS (own := RX11) (cls := "java/lang/IllegalStateException") (text := "no run has begun") (names := ["java/lang/RuntimeException", "java/lang/Exception"]) (ik := 128) (is := 143) (ic := 132) hx hb hst hown (by decide +kernel) (by decide +kernel) (hts _ (bP 430 rfl)) (hts _ (bP 431 rfl)) hs_sb (kA.use atB_ok hB_) atB_ot hZ.1 hZ.2 hS (hl.1.trans hml.symm) dX11_run_31 dX11_run_34 dX11_run_35 dX11_run_37 dX11_run_40 (fun x hx => (hnt x hx).elim) (Nat.le_of_ble_eq_true rfl) (Nat.le_of_ble_eq_true rfl) (Nat.le_of_ble_eq_true rfl) (Nat.le_of_ble_eq_true rfl) B.notSynchronized (fun t hv_ ha_ hb_ => ⟨(), trivial, rE3 h1 h8, hS.FX ha_ hb_⟩) hS.2.2 (Nat.le_of_ble_eq_true rfl) (Nat.le_of_ble_eq_true rfl)
    · exact vx_throwS (own := RX11) (cls := "java/lang/IllegalArgumentException") (text := "not 0 .. 2000 steps") (names := ["java/lang/RuntimeException", "java/lang/Exception"]) (ik := 138) (is := 140) (ic := 142) hx hb hst hown (by decide +kernel) (by decide +kernel) (hts _ (bP 433 rfl)) (hts _ (bP 434 rfl)) hs_sa (kA.use atA_ok hA_) atA_ot hZ.1 hZ.2 hS (hl.1.trans hml.symm) dX11_run_11 dX11_run_14 dX11_run_15 dX11_run_17 dX11_run_20 (fun x hx => (hnt x hx).elim) (Nat.le_of_ble_eq_true rfl) (Nat.le_of_ble_eq_true rfl) (Nat.le_of_ble_eq_true rfl) (Nat.le_of_ble_eq_true rfl) B.notSynchronized (fun t hv_ ha_ hb_ => ⟨(), trivial, by first | exact rE1 h1 | exact rE2 h8, hS.FX ha_ hb_⟩) hS.2.2 (Nat.le_of_ble_eq_true rfl) (Nat.le_of_ble_eq_true rfl)
set_option maxHeartbeats 4000000 in
set_option maxRecDepth 100000 in
/-- the law's begin -/
theorem c_L_begin (l : Launch) (hst : l.stackTraces = false) (dC : Nat → ClassId) (dI : Nat → Nat → Nat) (sz : Nat) (fx : List Value) (qx sa : Nat) (a1 : Int32) : vx_Met l yL_begin (.codeWith yL_begin cL_begin 3 (some .int) [(0, 5, 8, 13)] :: wP) ({ frames := 7, cells := 1, slots := 6, locals := 110 }) (va_Pc [.ref qx, .int a1] (fun U => U.heap.size = sz ∧ kJ 9 [(8, .int 0)] fx ∧ kA atB U ∧ vk_R RX11 130 "there is no program" sa U ∧ va_P (dC, dI) vwCl [(qx, .inr (11, fx))] U.heap ∧ va_K (dC, dI) vwCl [] U ∧ va_D (fun _ => True) [(qx, .inr (11, fx))] ∧ zT (va_A [(qx, .inr (11, fx))] sz) U U.heap)) (va_Qi (fun r (_ : Unit) => r = 1) (fun (_ : Unit) (_ : State) => True) (va_A [(qx, .inr (11, fx))] sz)) (vx_X (fun _ : Unit => False) (fun (_ : String) (_ : Unit) (_ : State) => True) (va_A [(qx, .inr (11, fx))] sz)) 1 6 (va_A [(qx, .inr (11, fx))] sz) := by
  refine vx_ofWH (hh := [(0, 5, 8, 13)]) (cc := cL_begin) (maxL := 3) (ret := (some .int)) (by decide) rfl ?_
  intro p e s m args below meth c s₁ B hml hv
  obtain ⟨rfl, hsz, hJ, hB_, hs_sa, hP, hK, hD0, hZ⟩ := hv
  have hx := B.exec
  have hb := B.bytes
  have hr := B.returns
  have hts := atoms_spec (ws := .codeWith yL_begin cL_begin 3 (some .int) [(0, 5, 8, 13)] :: wP) B.pre
  have hown : s.vm.findClass RL = some m.cls := findClass_of_methodNamed B.named
  subst hsz
  have hD := hD0.self (sz := s.heap.size)
  generalize hAe : va_A [(qx, .inr (11, fx))] s.heap.size = A at hD hZ ⊢
  have hA : ∀ q : Nat, s.heap.size ≤ q → A q := fun q h => by rw [← hAe]; exact Or.inr h
  have hS : va_S A s.heap s.heap [] := va_S.rf
  have hl := lv_entry ([.ref qx, .int a1]) (n := 3) (Nat.le_of_ble_eq_true rfl)
  rw [lg_entry_eq]
  generalize (lg_sl ([.ref qx, .int a1]) ++ List.replicate (3 - (lg_sl ([.ref qx, .int a1])).length) Slot.unset).toArray = ls at hl ⊢
  obtain ⟨H, hHe⟩ : ∃ H, H = s.heap := ⟨_, rfl⟩
  rw [← hHe] at hP ⊢
  have hS : va_S A s.heap H [] := by rw [hHe]; exact hS
  have hl : lv_has ls 3 [(0, .ref qx), (1, .int a1)] := hl
  have htab : c.exceptionTable.toList = tableOf [(0, 5, 8, 13)] := vx_table (x := yL_begin) B (hts _ List.mem_cons_self)
  refine lv_aload_n hx hb dL_begin_0 rfl (lv_at hl 0 rfl) ?_
  refine lv_iload_n hx hb dL_begin_1 rfl (lv_at hl 1 rfl) ?_
  have hPc := hP.sub (ws' := [(qx, .inr (11, fx))]) [0] rfl
  have hDc := hD.sub (ws' := [(qx, .inr (11, fx))]) [0] (by decide) rfl
  have hKc := hK.sub (tys' := []) [] rfl
  have hFc := va_free (wc := [(qx, .inr (11, fx))]) hD hS hA [0] rfl
  have hZc := (hZ.kept hS.2.1).narrow hFc
  refine vx_callv (vx_runV (As := [.int a1]) (rest := []) ⟨hx, hb, hml, hown, hts⟩ (c_MeetingHouse_begin l hst dC dI qx H.size fx sa a1) (cwV 1 hts (gV (y := yX11_begin) _ 437 438 439 440 429 rfl rfl rfl rfl rfl) rfl rfl rfl (by decide +kernel) ⟨Nat.le_of_ble_eq_true rfl, Nat.le_of_ble_eq_true rfl⟩) ⟨fun a U g mk q => by obtain ⟨q0, q1, qJ, qB, qs, qP, qK, qD, qZ⟩ := q; exact ⟨q0, q1, qJ, kA.same atB_ok (u := U) (U := U.calling g mk a) rfl qB, vk_R.same (u := U) (U := U.calling g mk a) rfl qs, qP, va_K.moved (u := U) (U := U.calling g mk a) (Vm.Alike.refl U.vm) qK, qD, zT.moved (u := U) (U := U.calling g mk a) (Vm.Alike.refl U.vm) qZ⟩, va_recv hKc hPc (ci := 11) (q0 := 0) rfl rfl, fun U hU hW => ⟨rfl, by rw [hU], kJ_sub hJ (by simp), kA.warm atB_ok hW hB_, vk_R.warm hW hs_sa, by rw [hU]; exact hPc, va_K.moved hW.alike hKc, hDc.weaken (fun _ _ _ _ => trivial), by rw [hU]; exact zT.moved hW.alike hZc⟩⟩ rfl rfl hl.1 rfl (lv_room (Nat.le_of_ble_eq_true rfl)) dL_begin_2 ⟨Nat.le_of_ble_eq_true rfl, Nat.le_of_ble_eq_true rfl⟩) hS (fun q _ h => hFc q h) hFc (fun q _ h => hFc q h) (fun E ce q9_ u t H1 locs ht hvm hw hB hz1 hk1 hS hcell hcv hcl => ?_) (fun u t H1 locs ht hvm hw hB hz1 hk1 hS => hw.elim)
  have hB : E = "java/lang/IllegalStateException" := hB
  subst hB
  refine k_catchA (own := RL) (name := "java/lang/IllegalStateException") hown ⟨0, 5, 8, 13⟩ [] htab (by decide) (by decide) (hts _ (bP 441 rfl)) (kA.use atB_ok hB_ _ (by decide +kernel)) hcell hcv hcl ?_
  refine lv_astore_n (lv' := [(2, .ref q9_)]) hx hb dL_begin_8 rfl (lv_sub hl [] rfl) (by decide) rfl (fun ls hl => ?_)
  refine lv_iconst (v := 1) hx hb dL_begin_9 (by decide) ?_
  refine vx_ret ?_
  exact W.iret (v := 1) hx hb hr (fun t ht hW => ⟨⟨1, (), rfl, rfl, trivial⟩, hS.F ht⟩) hS.2.2 dL_begin_10
set_option maxHeartbeats 4000000 in
set_option maxRecDepth 100000 in
/-- the law's run -/
theorem c_L_run (l : Launch) (hst : l.stackTraces = false) (dC : Nat → ClassId) (dI : Nat → Nat → Nat) (sz : Nat) (fx fm : List Value) (qx qm qo sa sb : Nat) (a1 : Int32) : vx_Met l yL_run (.codeWith yL_run cL_run 4 (some .int) [(0, 9, 12, 19), (0, 9, 15, 13)] :: wP) ({ frames := 7, cells := 1, slots := 6, locals := 110 }) (va_Pc [.ref qx, .int a1, .ref qo] (fun U => U.heap.size = sz ∧ kJ 9 [(7, .ref qm)] fx ∧ kJ 21 [(0, .int 0)] fm ∧ kA atB U ∧ kA atA U ∧ vk_R RX11 140 "not 0 .. 2000 steps" sa U ∧ vk_R RX11 143 "no run has begun" sb U ∧ kN "java/lang/IllegalStateException" "java/lang/IllegalArgumentException" U ∧ va_P (dC, dI) vwCl [(qx, .inr (11, fx)), (qm, .inr (3, fm))] U.heap ∧ va_K (dC, dI) vwCl [] U ∧ va_D (fun _ => True) [(qx, .inr (11, fx)), (qm, .inr (3, fm))] ∧ zT (va_A [(qx, .inr (11, fx)), (qm, .inr (3, fm))] sz) U U.heap)) (va_Qi (fun r (_ : Unit) => r = rc a1) (fun (_ : Unit) (_ : State) => True) (va_A [(qx, .inr (11, fx)), (qm, .inr (3, fm))] sz)) (vx_X (fun _ : Unit => False) (fun (_ : String) (_ : Unit) (_ : State) => True) (va_A [(qx, .inr (11, fx)), (qm, .inr (3, fm))] sz)) 1 6 (va_A [(qx, .inr (11, fx)), (qm, .inr (3, fm))] sz) := by
  refine vx_ofWH (hh := [(0, 9, 12, 19), (0, 9, 15, 13)]) (cc := cL_run) (maxL := 4) (ret := (some .int)) (by decide) rfl ?_
  intro p e s m args below meth c s₁ B hml hv
  obtain ⟨rfl, hsz, hJ, hM, hB_, hA_, hs_sa, hs_sb, hno, hP, hK, hD0, hZ⟩ := hv
  have hx := B.exec
  have hb := B.bytes
  have hr := B.returns
  have hts := atoms_spec (ws := .codeWith yL_run cL_run 4 (some .int) [(0, 9, 12, 19), (0, 9, 15, 13)] :: wP) B.pre
  have hown : s.vm.findClass RL = some m.cls := findClass_of_methodNamed B.named
  subst hsz
  have hD := hD0.self (sz := s.heap.size)
  generalize hAe : va_A [(qx, .inr (11, fx)), (qm, .inr (3, fm))] s.heap.size = A at hD hZ ⊢
  have hA : ∀ q : Nat, s.heap.size ≤ q → A q := fun q h => by rw [← hAe]; exact Or.inr h
  have hS : va_S A s.heap s.heap [] := va_S.rf
  have hl := lv_entry ([.ref qx, .int a1, .ref qo]) (n := 4) (Nat.le_of_ble_eq_true rfl)
  rw [lg_entry_eq]
  generalize (lg_sl ([.ref qx, .int a1, .ref qo]) ++ List.replicate (4 - (lg_sl ([.ref qx, .int a1, .ref qo])).length) Slot.unset).toArray = ls at hl ⊢
  obtain ⟨H, hHe⟩ : ∃ H, H = s.heap := ⟨_, rfl⟩
  rw [← hHe] at hP ⊢
  have hS : va_S A s.heap H [] := by rw [hHe]; exact hS
  have hl : lv_has ls 4 [(0, .ref qx), (1, .int a1), (2, .ref qo)] := hl
  have htab : c.exceptionTable.toList = tableOf [(0, 9, 12, 19), (0, 9, 15, 13)] := vx_table (x := yL_run) B (hts _ List.mem_cons_self)
  refine lv_aload_n hx hb dL_run_0 rfl (lv_at hl 2 rfl) ?_
  refine lv_iconst (v := 0) hx hb dL_run_1 (by decide) ?_
  refine lv_aload_n hx hb dL_run_2 rfl (lv_at hl 0 rfl) ?_
  refine lv_iload_n hx hb dL_run_3 rfl (lv_at hl 1 rfl) ?_
  have hPc := hP.sub (ws' := [(qx, .inr (11, fx)), (qm, .inr (3, fm))]) [0, 1] rfl
  have hDc := hD.sub (ws' := [(qx, .inr (11, fx)), (qm, .inr (3, fm))]) [0, 1] (by decide) rfl
  have hKc := hK.sub (tys' := []) [] rfl
  have hFc := va_free (wc := [(qx, .inr (11, fx)), (qm, .inr (3, fm))]) hD hS hA [0, 1] rfl
  have hZc := (hZ.kept hS.2.1).narrow hFc
  refine vx_calli (vx_runV (As := [.int a1]) (rest := [.int 0, .ref qo]) ⟨hx, hb, hml, hown, hts⟩ (c_MeetingHouse_run l hst dC dI qx H.size fx fm qm sa sb a1) (cwV 1 hts (gV (y := yX11_run) _ 444 445 446 440 432 rfl rfl rfl rfl rfl) rfl rfl rfl (by decide +kernel) ⟨Nat.le_of_ble_eq_true rfl, Nat.le_of_ble_eq_true rfl⟩) ⟨fun a U g mk q => by obtain ⟨q0, q1, qJ, qM, qB, qA, qs, qt, qP, qK, qD, qZ⟩ := q; exact ⟨q0, q1, qJ, qM, kA.same atB_ok (u := U) (U := U.calling g mk a) rfl qB, kA.same atA_ok (u := U) (U := U.calling g mk a) rfl qA, vk_R.same (u := U) (U := U.calling g mk a) rfl qs, vk_R.same (u := U) (U := U.calling g mk a) rfl qt, qP, va_K.moved (u := U) (U := U.calling g mk a) (Vm.Alike.refl U.vm) qK, qD, zT.moved (u := U) (U := U.calling g mk a) (Vm.Alike.refl U.vm) qZ⟩, va_recv hKc hPc (ci := 11) (q0 := 0) rfl rfl, fun U hU hW => ⟨rfl, by rw [hU], kJ_sub hJ (by simp), hM, kA.warm atB_ok hW hB_, kA.warm atA_ok hW hA_, vk_R.warm hW hs_sa, vk_R.warm hW hs_sb, by rw [hU]; exact hPc, va_K.moved hW.alike hKc, hDc.weaken (fun _ _ _ _ => trivial), by rw [hU]; exact zT.moved hW.alike hZc⟩⟩ rfl rfl hl.1 rfl (lv_room (Nat.le_of_ble_eq_true rfl)) dL_run_4 ⟨Nat.le_of_ble_eq_true rfl, Nat.le_of_ble_eq_true rfl⟩) hS (fun q _ h => hFc q h) hFc (fun q _ h => hFc q h) (fun E ce q9_ u t H1 locs ht hvm hw hB hz1 hk1 hS hcell hcv hcl => ?_) (fun r u t H1 locs ht hvm hw hB hz1 hk1 hS => hw.elim)
  have hB : E = rE a1 := hB
  by_cases h9 : a1 < 0 ∨ 2000 < a1
  · have hB : E = "java/lang/IllegalArgumentException" := hB.trans (if_pos h9)
    subst hB
    refine k_catchA (own := RL) (name := "java/lang/IllegalArgumentException") hown ⟨0, 9, 12, 19⟩ _ htab (by decide) (by decide) (hts _ (bP 442 rfl)) (kA.use atA_ok hA_ _ (by decide +kernel)) hcell hcv hcl ?_
    refine lv_astore_n (lv' := [(3, .ref q9_)]) hx hb dL_run_12 rfl (lv_sub hl [] rfl) (by decide) rfl (fun ls hl => ?_)
    refine lv_iconst (v := 1) hx hb dL_run_13 (by decide) ?_
    refine vx_ret ?_
    exact W.iret (v := 1) hx hb hr (fun t ht hW => ⟨⟨1, (), rfl, (if_pos h9).symm, trivial⟩, hS.F ht⟩) hS.2.2 dL_run_14
  · have hB : E = "java/lang/IllegalStateException" := hB.trans (if_neg h9)
    subst hB
    obtain ⟨k1, hk1⟩ : ∃ k1, s.vm.findClass "java/lang/IllegalArgumentException" = some k1 := by
      obtain ⟨c3, c4, h3, -, -⟩ := Cond.castable_spec (kA.use atA_ok hA_ (A := #[]) (Cond.castable "java/lang/IllegalArgumentException" "java/lang/IllegalArgumentException") (by decide +kernel))
      exact ⟨c3, h3⟩
    refine k_catchB (own := RL) (name := "java/lang/IllegalStateException") (name1 := "java/lang/IllegalArgumentException") hown ⟨0, 9, 12, 19⟩ ⟨0, 9, 15, 13⟩ _ htab (by decide) (by decide) (hts _ (bP 442 rfl)) hno hk1 (by decide) (by decide) (hts _ (bP 441 rfl)) (kA.use atB_ok hB_ _ (by decide +kernel)) hcell hcv hcl ?_
    refine lv_astore_n (lv' := [(3, .ref q9_)]) hx hb dL_run_15 rfl (lv_sub hl [] rfl) (by decide) rfl (fun ls hl => ?_)
    refine lv_iconst (v := 2) hx hb dL_run_16 (by decide) ?_
    refine vx_ret ?_
    exact W.iret (v := 2) hx hb hr (fun t ht hW => ⟨⟨2, (), rfl, (if_neg h9).symm, trivial⟩, hS.F ht⟩) hS.2.2 dL_run_17

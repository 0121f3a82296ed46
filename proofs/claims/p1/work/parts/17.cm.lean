/-! The class on a fresh object -/
theorem dX3_press_0 : decode cX3_press 0 = .ok (.aload_n 0, 1) := by decide +kernel
theorem dX3_press_1 : decode cX3_press 1 = .ok (.getfield 78, 3) := by decide +kernel
theorem dX3_press_4 : decode cX3_press 4 = .ok (.ifCond .eq 14, 3) := by decide +kernel
theorem dX3_press_18 : decode cX3_press 18 = .ok (.iconst 0, 1) := by decide +kernel
theorem dX3_press_19 : decode cX3_press 19 = .ok (.ireturn, 1) := by decide +kernel
theorem dX3_tally_0 : decode cX3_tally 0 = .ok (.aload_n 0, 1) := by decide +kernel
theorem dX3_tally_1 : decode cX3_tally 1 = .ok (.getfield 78, 3) := by decide +kernel
theorem dX3_tally_4 : decode cX3_tally 4 = .ok (.ifCond .ne 5, 3) := by decide +kernel
theorem dX3_tally_7 : decode cX3_tally 7 = .ok (.iconst 0, 1) := by decide +kernel
theorem dX3_tally_8 : decode cX3_tally 8 = .ok (.ireturn, 1) := by decide +kernel
theorem dX3_shown_0 : decode cX3_shown 0 = .ok (.aload_n 0, 1) := by decide +kernel
theorem dX3_shown_1 : decode cX3_shown 1 = .ok (.getfield 78, 3) := by decide +kernel
theorem dX3_shown_4 : decode cX3_shown 4 = .ok (.ifCond .eq 14, 3) := by decide +kernel
theorem dX3_shown_18 : decode cX3_shown 18 = .ok (.iconst (-1), 1) := by decide +kernel
theorem dX3_shown_19 : decode cX3_shown 19 = .ok (.ireturn, 1) := by decide +kernel
theorem dX3_tellMeeting_0 : decode cX3_tellMeeting 0 = .ok (.aload_n 0, 1) := by decide +kernel
theorem dX3_tellMeeting_1 : decode cX3_tellMeeting 1 = .ok (.getfield 78, 3) := by decide +kernel
theorem dX3_tellMeeting_4 : decode cX3_tellMeeting 4 = .ok (.ifCond .eq 15, 3) := by decide +kernel
theorem dX3_tellMeeting_19 : decode cX3_tellMeeting 19 = .ok (.iconst (-1), 1) := by decide +kernel
theorem dX3_tellMeeting_20 : decode cX3_tellMeeting 20 = .ok (.ireturn, 1) := by decide +kernel
theorem dX3_tellProcess_0 : decode cX3_tellProcess 0 = .ok (.aload_n 0, 1) := by decide +kernel
theorem dX3_tellProcess_1 : decode cX3_tellProcess 1 = .ok (.getfield 78, 3) := by decide +kernel
theorem dX3_tellProcess_4 : decode cX3_tellProcess 4 = .ok (.ifCond .eq 14, 3) := by decide +kernel
theorem dX3_tellProcess_18 : decode cX3_tellProcess 18 = .ok (.aconst_null, 1) := by decide +kernel
theorem dX3_tellProcess_19 : decode cX3_tellProcess 19 = .ok (.astore_n 3, 1) := by decide +kernel
theorem dX3_tellProcess_20 : decode cX3_tellProcess 20 = .ok (.aload_n 3, 1) := by decide +kernel
theorem dX3_tellProcess_21 : decode cX3_tellProcess 21 = .ok (.ifnonnull 5, 3) := by decide +kernel
theorem dX3_tellProcess_24 : decode cX3_tellProcess 24 = .ok (.iconst (-1), 1) := by decide +kernel
theorem dX3_tellProcess_25 : decode cX3_tellProcess 25 = .ok (.ireturn, 1) := by decide +kernel
theorem dX3_tellCell_0 : decode cX3_tellCell 0 = .ok (.aload_n 0, 1) := by decide +kernel
theorem dX3_tellCell_1 : decode cX3_tellCell 1 = .ok (.getfield 78, 3) := by decide +kernel
theorem dX3_tellCell_4 : decode cX3_tellCell 4 = .ok (.ifCond .eq 7, 3) := by decide +kernel
theorem dX3_tellCell_11 : decode cX3_tellCell 11 = .ok (.iconst 0, 1) := by decide +kernel
theorem dX3_tellCell_12 : decode cX3_tellCell 12 = .ok (.ireturn, 1) := by decide +kernel
theorem dX7_append_0 : decode cX7_append 0 = .ok (.bipush 24, 2) := by decide +kernel
theorem dX7_append_2 : decode cX7_append 2 = .ok (.istore_n 2, 1) := by decide +kernel
theorem dX7_append_3 : decode cX7_append 3 = .ok (.iload_n 2, 1) := by decide +kernel
theorem dX7_append_4 : decode cX7_append 4 = .ok (.ifCond .lt 42, 3) := by decide +kernel
theorem dX7_append_7 : decode cX7_append 7 = .ok (.aload_n 0, 1) := by decide +kernel
theorem dX7_append_8 : decode cX7_append 8 = .ok (.getfield 43, 3) := by decide +kernel
theorem dX7_append_11 : decode cX7_append 11 = .ok (.sipush 6000, 3) := by decide +kernel
theorem dX7_append_14 : decode cX7_append 14 = .ok (.if_icmp .ge 26, 3) := by decide +kernel
theorem dX7_append_17 : decode cX7_append 17 = .ok (.aload_n 0, 1) := by decide +kernel
theorem dX7_append_18 : decode cX7_append 18 = .ok (.getfield 9, 3) := by decide +kernel
theorem dX7_append_21 : decode cX7_append 21 = .ok (.aload_n 0, 1) := by decide +kernel
theorem dX7_append_22 : decode cX7_append 22 = .ok (.getfield 43, 3) := by decide +kernel
theorem dX7_append_25 : decode cX7_append 25 = .ok (.iload_n 1, 1) := by decide +kernel
theorem dX7_append_26 : decode cX7_append 26 = .ok (.iload_n 2, 1) := by decide +kernel
theorem dX7_append_27 : decode cX7_append 27 = .ok (.iushr, 1) := by decide +kernel
theorem dX7_append_28 : decode cX7_append 28 = .ok (.i2b, 1) := by decide +kernel
theorem dX7_append_29 : decode cX7_append 29 = .ok (.bastore, 1) := by decide +kernel
theorem dX7_append_30 : decode cX7_append 30 = .ok (.aload_n 0, 1) := by decide +kernel
theorem dX7_append_31 : decode cX7_append 31 = .ok (.dup, 1) := by decide +kernel
theorem dX7_append_32 : decode cX7_append 32 = .ok (.getfield 43, 3) := by decide +kernel
theorem dX7_append_35 : decode cX7_append 35 = .ok (.iconst 1, 1) := by decide +kernel
theorem dX7_append_36 : decode cX7_append 36 = .ok (.iadd, 1) := by decide +kernel
theorem dX7_append_37 : decode cX7_append 37 = .ok (.putfield 43, 3) := by decide +kernel
theorem dX7_append_40 : decode cX7_append 40 = .ok (.iinc 2 (-8), 3) := by decide +kernel
theorem dX7_append_43 : decode cX7_append 43 = .ok (.goto (-40), 3) := by decide +kernel
theorem dX7_append_46 : decode cX7_append 46 = .ok (.return_, 1) := by decide +kernel
theorem dX11_feed_0 : decode cX11_feed 0 = .ok (.aload_n 0, 1) := by decide +kernel
theorem dX11_feed_1 : decode cX11_feed 1 = .ok (.getfield 12, 3) := by decide +kernel
theorem dX11_feed_4 : decode cX11_feed 4 = .ok (.getfield 79, 3) := by decide +kernel
theorem dX11_feed_7 : decode cX11_feed 7 = .ok (.bipush 20, 2) := by decide +kernel
theorem dX11_feed_9 : decode cX11_feed 9 = .ok (.iadd, 1) := by decide +kernel
theorem dX11_feed_10 : decode cX11_feed 10 = .ok (.sipush 6000, 3) := by decide +kernel
theorem dX11_feed_13 : decode cX11_feed 13 = .ok (.if_icmp .le 5, 3) := by decide +kernel
theorem dX11_feed_18 : decode cX11_feed 18 = .ok (.aload_n 0, 1) := by decide +kernel
theorem dX11_feed_19 : decode cX11_feed 19 = .ok (.getfield 12, 3) := by decide +kernel
theorem dX11_feed_22 : decode cX11_feed 22 = .ok (.iload_n 1, 1) := by decide +kernel
theorem dX11_feed_23 : decode cX11_feed 23 = .ok (.invokevirtual 83, 3) := by decide +kernel
theorem dX11_feed_26 : decode cX11_feed 26 = .ok (.aload_n 0, 1) := by decide +kernel
theorem dX11_feed_27 : decode cX11_feed 27 = .ok (.getfield 12, 3) := by decide +kernel
theorem dX11_feed_30 : decode cX11_feed 30 = .ok (.iload_n 2, 1) := by decide +kernel
theorem dX11_feed_31 : decode cX11_feed 31 = .ok (.invokevirtual 83, 3) := by decide +kernel
theorem dX11_feed_34 : decode cX11_feed 34 = .ok (.aload_n 0, 1) := by decide +kernel
theorem dX11_feed_35 : decode cX11_feed 35 = .ok (.getfield 12, 3) := by decide +kernel
theorem dX11_feed_38 : decode cX11_feed 38 = .ok (.iload_n 3, 1) := by decide +kernel
theorem dX11_feed_39 : decode cX11_feed 39 = .ok (.invokevirtual 83, 3) := by decide +kernel
theorem dX11_feed_42 : decode cX11_feed 42 = .ok (.aload_n 0, 1) := by decide +kernel
theorem dX11_feed_43 : decode cX11_feed 43 = .ok (.getfield 12, 3) := by decide +kernel
theorem dX11_feed_46 : decode cX11_feed 46 = .ok (.iload 4, 2) := by decide +kernel
theorem dX11_feed_48 : decode cX11_feed 48 = .ok (.invokevirtual 83, 3) := by decide +kernel
theorem dX11_feed_51 : decode cX11_feed 51 = .ok (.aload_n 0, 1) := by decide +kernel
theorem dX11_feed_52 : decode cX11_feed 52 = .ok (.getfield 12, 3) := by decide +kernel
theorem dX11_feed_55 : decode cX11_feed 55 = .ok (.iload 5, 2) := by decide +kernel
theorem dX11_feed_57 : decode cX11_feed 57 = .ok (.invokevirtual 83, 3) := by decide +kernel
theorem dX11_feed_60 : decode cX11_feed 60 = .ok (.aload_n 0, 1) := by decide +kernel
theorem dX11_feed_61 : decode cX11_feed 61 = .ok (.getfield 12, 3) := by decide +kernel
theorem dX11_feed_64 : decode cX11_feed 64 = .ok (.getfield 79, 3) := by decide +kernel
theorem dX11_feed_67 : decode cX11_feed 67 = .ok (.ireturn, 1) := by decide +kernel
theorem dX11_back_0 : decode cX11_back 0 = .ok (.iload_n 1, 1) := by decide +kernel
theorem dX11_back_1 : decode cX11_back 1 = .ok (.ifCond .lt 14, 3) := by decide +kernel
theorem dX11_back_4 : decode cX11_back 4 = .ok (.iload_n 1, 1) := by decide +kernel
theorem dX11_back_5 : decode cX11_back 5 = .ok (.aload_n 0, 1) := by decide +kernel
theorem dX11_back_6 : decode cX11_back 6 = .ok (.getfield 12, 3) := by decide +kernel
theorem dX11_back_9 : decode cX11_back 9 = .ok (.getfield 79, 3) := by decide +kernel
theorem dX11_back_12 : decode cX11_back 12 = .ok (.if_icmp .le 5, 3) := by decide +kernel
theorem dX11_back_15 : decode cX11_back 15 = .ok (.iconst (-1), 1) := by decide +kernel
theorem dX11_back_16 : decode cX11_back 16 = .ok (.ireturn, 1) := by decide +kernel
theorem dX11_back_17 : decode cX11_back 17 = .ok (.aload_n 0, 1) := by decide +kernel
theorem dX11_back_18 : decode cX11_back 18 = .ok (.getfield 12, 3) := by decide +kernel
theorem dX11_back_21 : decode cX11_back 21 = .ok (.dup, 1) := by decide +kernel
theorem dX11_back_22 : decode cX11_back 22 = .ok (.getfield 79, 3) := by decide +kernel
theorem dX11_back_25 : decode cX11_back 25 = .ok (.iload_n 1, 1) := by decide +kernel
theorem dX11_back_26 : decode cX11_back 26 = .ok (.isub, 1) := by decide +kernel
theorem dX11_back_27 : decode cX11_back 27 = .ok (.putfield 79, 3) := by decide +kernel
theorem dX11_back_30 : decode cX11_back 30 = .ok (.aload_n 0, 1) := by decide +kernel
theorem dX11_back_31 : decode cX11_back 31 = .ok (.getfield 12, 3) := by decide +kernel
theorem dX11_back_34 : decode cX11_back 34 = .ok (.getfield 79, 3) := by decide +kernel
theorem dX11_back_37 : decode cX11_back 37 = .ok (.ireturn, 1) := by decide +kernel
theorem dX11_count_0 : decode cX11_count 0 = .ok (.iload_n 1, 1) := by decide +kernel
theorem dX11_count_1 : decode cX11_count 1 = .ok (.ifCond .lt 9, 3) := by decide +kernel
theorem dX11_count_4 : decode cX11_count 4 = .ok (.iload_n 1, 1) := by decide +kernel
theorem dX11_count_5 : decode cX11_count 5 = .ok (.bipush 13, 2) := by decide +kernel
theorem dX11_count_7 : decode cX11_count 7 = .ok (.if_icmp .le 5, 3) := by decide +kernel
theorem dX11_count_10 : decode cX11_count 10 = .ok (.iconst (-1), 1) := by decide +kernel
theorem dX11_count_11 : decode cX11_count 11 = .ok (.ireturn, 1) := by decide +kernel
theorem dX11_count_12 : decode cX11_count 12 = .ok (.iload_n 1, 1) := by decide +kernel
theorem dX11_count_13 : decode cX11_count 13 = .ok (.iconst 3, 1) := by decide +kernel
theorem dX11_count_14 : decode cX11_count 14 = .ok (.if_icmp .ne 11, 3) := by decide +kernel
theorem dX11_count_17 : decode cX11_count 17 = .ok (.aload_n 0, 1) := by decide +kernel
theorem dX11_count_18 : decode cX11_count 18 = .ok (.getfield 12, 3) := by decide +kernel
theorem dX11_count_21 : decode cX11_count 21 = .ok (.getfield 79, 3) := by decide +kernel
theorem dX11_count_24 : decode cX11_count 24 = .ok (.ireturn, 1) := by decide +kernel
theorem dX11_count_25 : decode cX11_count 25 = .ok (.iload_n 1, 1) := by decide +kernel
theorem dX11_count_26 : decode cX11_count 26 = .ok (.iconst 3, 1) := by decide +kernel
theorem dX11_count_27 : decode cX11_count 27 = .ok (.if_icmp .le 12, 3) := by decide +kernel
theorem dX11_count_30 : decode cX11_count 30 = .ok (.aload_n 0, 1) := by decide +kernel
theorem dX11_count_31 : decode cX11_count 31 = .ok (.getfield 71, 3) := by decide +kernel
theorem dX11_count_34 : decode cX11_count 34 = .ok (.iload_n 1, 1) := by decide +kernel
theorem dX11_count_35 : decode cX11_count 35 = .ok (.invokevirtual 115, 3) := by decide +kernel
theorem dX11_count_38 : decode cX11_count 38 = .ok (.ireturn, 1) := by decide +kernel
theorem dX11_count_39 : decode cX11_count 39 = .ok (.aload_n 0, 1) := by decide +kernel
theorem dX11_count_40 : decode cX11_count 40 = .ok (.getfield 75, 3) := by decide +kernel
theorem dX11_count_43 : decode cX11_count 43 = .ok (.ifCond .ne 5, 3) := by decide +kernel
theorem dX11_count_46 : decode cX11_count 46 = .ok (.iconst 0, 1) := by decide +kernel
theorem dX11_count_47 : decode cX11_count 47 = .ok (.ireturn, 1) := by decide +kernel
theorem dX11_key_0 : decode cX11_key 0 = .ok (.aload_n 0, 1) := by decide +kernel
theorem dX11_key_1 : decode cX11_key 1 = .ok (.getfield 71, 3) := by decide +kernel
theorem dX11_key_4 : decode cX11_key 4 = .ok (.iload_n 1, 1) := by decide +kernel
theorem dX11_key_5 : decode cX11_key 5 = .ok (.sipush 255, 3) := by decide +kernel
theorem dX11_key_8 : decode cX11_key 8 = .ok (.iand, 1) := by decide +kernel
theorem dX11_key_9 : decode cX11_key 9 = .ok (.invokevirtual 149, 3) := by decide +kernel
theorem dX11_key_12 : decode cX11_key 12 = .ok (.ireturn, 1) := by decide +kernel
theorem dX11_output_0 : decode cX11_output 0 = .ok (.aload_n 0, 1) := by decide +kernel
theorem dX11_output_1 : decode cX11_output 1 = .ok (.getfield 71, 3) := by decide +kernel
theorem dX11_output_4 : decode cX11_output 4 = .ok (.iload_n 1, 1) := by decide +kernel
theorem dX11_output_5 : decode cX11_output 5 = .ok (.invokevirtual 153, 3) := by decide +kernel
theorem dX11_output_8 : decode cX11_output 8 = .ok (.ireturn, 1) := by decide +kernel
theorem dX11_process_0 : decode cX11_process 0 = .ok (.aload_n 0, 1) := by decide +kernel
theorem dX11_process_1 : decode cX11_process 1 = .ok (.getfield 71, 3) := by decide +kernel
theorem dX11_process_4 : decode cX11_process 4 = .ok (.iload_n 1, 1) := by decide +kernel
theorem dX11_process_5 : decode cX11_process 5 = .ok (.iload_n 2, 1) := by decide +kernel
theorem dX11_process_6 : decode cX11_process 6 = .ok (.invokevirtual 156, 3) := by decide +kernel
theorem dX11_process_9 : decode cX11_process 9 = .ok (.ireturn, 1) := by decide +kernel
theorem dX11_cell_0 : decode cX11_cell 0 = .ok (.aload_n 0, 1) := by decide +kernel
theorem dX11_cell_1 : decode cX11_cell 1 = .ok (.getfield 71, 3) := by decide +kernel
theorem dX11_cell_4 : decode cX11_cell 4 = .ok (.iload_n 1, 1) := by decide +kernel
theorem dX11_cell_5 : decode cX11_cell 5 = .ok (.invokevirtual 160, 3) := by decide +kernel
theorem dX11_cell_8 : decode cX11_cell 8 = .ok (.ireturn, 1) := by decide +kernel
theorem dX11_meeting_0 : decode cX11_meeting 0 = .ok (.aload_n 0, 1) := by decide +kernel
theorem dX11_meeting_1 : decode cX11_meeting 1 = .ok (.getfield 71, 3) := by decide +kernel
theorem dX11_meeting_4 : decode cX11_meeting 4 = .ok (.iload_n 1, 1) := by decide +kernel
theorem dX11_meeting_5 : decode cX11_meeting 5 = .ok (.iload_n 2, 1) := by decide +kernel
theorem dX11_meeting_6 : decode cX11_meeting 6 = .ok (.invokevirtual 163, 3) := by decide +kernel
theorem dX11_meeting_9 : decode cX11_meeting 9 = .ok (.ireturn, 1) := by decide +kernel
theorem dX11_clashes_0 : decode cX11_clashes 0 = .ok (.iconst 0, 1) := by decide +kernel
theorem dX11_clashes_1 : decode cX11_clashes 1 = .ok (.ireturn, 1) := by decide +kernel
set_option maxHeartbeats 4000000 in
set_option maxRecDepth 100000 in
/-- c_Machine_press -/
theorem c_Machine_press (l : Launch) (dC : Nat → ClassId) (dI : Nat → Nat → Nat) (h0 sz : Nat) (fm : List Value) (a1 : Int32) : Met l yX3_press (.code yX3_press cX3_press 3 (some .boolean) :: wP) ({ frames := 0, cells := 0, slots := 0, locals := 0 }) (va_Pc [.ref h0, .int a1] (fun U => U.heap.size = sz ∧ kJ 21 [(0, .int 0)] fm ∧ va_P (dC, dI) vwCl [(h0, .inr (3, fm))] U.heap ∧ va_K (dC, dI) vwCl [] U ∧ va_D (fun _ => True) [(h0, .inr (3, fm))])) (va_Qi (fun r (_ : Unit) => r = 0) (fun (_ : Unit) (_ : State) => True) (va_A [(h0, .inr (3, fm))] sz)) 0 0 (va_A [(h0, .inr (3, fm))] sz) := by
  refine Met.ofW (cc := cX3_press) (maxL := 3) (ret := (some .boolean)) (by decide) rfl ?_
  intro p e s m args below meth c s₁ B hml hv
  obtain ⟨rfl, hsz, hM, hP, hK, hD0⟩ := hv
  have hx := B.exec
  have hb := B.bytes
  have hr := B.returns
  have hts := atoms_spec (ws := .code yX3_press cX3_press 3 (some .boolean) :: wP) B.pre
  have hown : s.vm.findClass RX3 = some m.cls := findClass_of_methodNamed B.named
  subst hsz
  have hD := hD0.self (sz := s.heap.size)
  generalize hAe : va_A [(h0, .inr (3, fm))] s.heap.size = A at hD ⊢
  have hA : ∀ q : Nat, s.heap.size ≤ q → A q := fun q h => by rw [← hAe]; exact Or.inr h
  have hS : va_S A s.heap s.heap [] := va_S.rf
  have hl := lv_entry ([.ref h0, .int a1]) (n := 3) (Nat.le_of_ble_eq_true rfl)
  rw [lg_entry_eq]
  generalize (lg_sl ([.ref h0, .int a1]) ++ List.replicate (3 - (lg_sl ([.ref h0, .int a1])).length) Slot.unset).toArray = ls at hl ⊢
  obtain ⟨H, hHe⟩ : ∃ H, H = s.heap := ⟨_, rfl⟩
  rw [← hHe] at hP ⊢
  have hS : va_S A s.heap H [] := by rw [hHe]; exact hS
  have hl : lv_has ls 3 [(0, .ref h0), (1, .int a1)] := hl
  refine lv_aload_n hx hb dX3_press_0 rfl (lv_at hl 0 rfl) ?_
  refine va_get (D := (dC, dI)) (ci := 3) (v := .int 0) (C := RX3) (T := TX3) (N := 21) hx hb hts iX3 hown hK hP 0 rfl rfl 0 (by decide) (hts _ (bP 390 rfl)) (fun _ h9 => h9) (kJ_at hM 0 rfl) dX3_press_1 ?_
  refine lv_if_eq (tgt := 18) hx hb dX3_press_4 (by decide) (fun _ => ?_) (fun h => absurd h (by decide))
  refine lv_iconst (v := 0) hx hb dX3_press_18 (by decide) ?_
  exact W.zret (v := 0) hx hb hr (by first | decide | (rw [hw]; decide)) (fun t ht hW => ⟨⟨0, (), rfl, rfl, trivial⟩, hS.F ht⟩) hS.2.2 dX3_press_19
set_option maxHeartbeats 4000000 in
set_option maxRecDepth 100000 in
/-- c_Machine_shown -/
theorem c_Machine_shown (l : Launch) (dC : Nat → ClassId) (dI : Nat → Nat → Nat) (h0 sz : Nat) (fm : List Value) (a1 : Int32) : Met l yX3_shown (.code yX3_shown cX3_shown 2 (some .int) :: wP) ({ frames := 0, cells := 0, slots := 0, locals := 0 }) (va_Pc [.ref h0, .int a1] (fun U => U.heap.size = sz ∧ kJ 21 [(0, .int 0)] fm ∧ va_P (dC, dI) vwCl [(h0, .inr (3, fm))] U.heap ∧ va_K (dC, dI) vwCl [] U ∧ va_D (fun _ => True) [(h0, .inr (3, fm))])) (va_Qi (fun r (_ : Unit) => r = -1) (fun (_ : Unit) (_ : State) => True) (va_A [(h0, .inr (3, fm))] sz)) 0 0 (va_A [(h0, .inr (3, fm))] sz) := by
  refine Met.ofW (cc := cX3_shown) (maxL := 2) (ret := (some .int)) (by decide) rfl ?_
  intro p e s m args below meth c s₁ B hml hv
  obtain ⟨rfl, hsz, hM, hP, hK, hD0⟩ := hv
  have hx := B.exec
  have hb := B.bytes
  have hr := B.returns
  have hts := atoms_spec (ws := .code yX3_shown cX3_shown 2 (some .int) :: wP) B.pre
  have hown : s.vm.findClass RX3 = some m.cls := findClass_of_methodNamed B.named
  subst hsz
  have hD := hD0.self (sz := s.heap.size)
  generalize hAe : va_A [(h0, .inr (3, fm))] s.heap.size = A at hD ⊢
  have hA : ∀ q : Nat, s.heap.size ≤ q → A q := fun q h => by rw [← hAe]; exact Or.inr h
  have hS : va_S A s.heap s.heap [] := va_S.rf
  have hl := lv_entry ([.ref h0, .int a1]) (n := 2) (Nat.le_of_ble_eq_true rfl)
  rw [lg_entry_eq]
  generalize (lg_sl ([.ref h0, .int a1]) ++ List.replicate (2 - (lg_sl ([.ref h0, .int a1])).length) Slot.unset).toArray = ls at hl ⊢
  obtain ⟨H, hHe⟩ : ∃ H, H = s.heap := ⟨_, rfl⟩
  rw [← hHe] at hP ⊢
  have hS : va_S A s.heap H [] := by rw [hHe]; exact hS
  have hl : lv_has ls 2 [(0, .ref h0), (1, .int a1)] := hl
  refine lv_aload_n hx hb dX3_shown_0 rfl (lv_at hl 0 rfl) ?_
  refine va_get (D := (dC, dI)) (ci := 3) (v := .int 0) (C := RX3) (T := TX3) (N := 21) hx hb hts iX3 hown hK hP 0 rfl rfl 0 (by decide) (hts _ (bP 390 rfl)) (fun _ h9 => h9) (kJ_at hM 0 rfl) dX3_shown_1 ?_
  refine lv_if_eq (tgt := 18) hx hb dX3_shown_4 (by decide) (fun _ => ?_) (fun h => absurd h (by decide))
  refine lv_iconst (v := (-1)) hx hb dX3_shown_18 (by decide) ?_
  exact W.iret (v := (-1)) hx hb hr (fun t ht hW => ⟨⟨(-1), (), rfl, rfl, trivial⟩, hS.F ht⟩) hS.2.2 dX3_shown_19
set_option maxHeartbeats 4000000 in
set_option maxRecDepth 100000 in
/-- c_Machine_tellProcess -/
theorem c_Machine_tellProcess (l : Launch) (dC : Nat → ClassId) (dI : Nat → Nat → Nat) (h0 sz : Nat) (fm : List Value) (a1 a2 : Int32) : Met l yX3_tellProcess (.code yX3_tellProcess cX3_tellProcess 5 (some .int) :: wP) ({ frames := 0, cells := 0, slots := 0, locals := 0 }) (va_Pc [.ref h0, .int a1, .int a2] (fun U => U.heap.size = sz ∧ kJ 21 [(0, .int 0)] fm ∧ va_P (dC, dI) vwCl [(h0, .inr (3, fm))] U.heap ∧ va_K (dC, dI) vwCl [] U ∧ va_D (fun _ => True) [(h0, .inr (3, fm))])) (va_Qi (fun r (_ : Unit) => r = -1) (fun (_ : Unit) (_ : State) => True) (va_A [(h0, .inr (3, fm))] sz)) 0 0 (va_A [(h0, .inr (3, fm))] sz) := by
  refine Met.ofW (cc := cX3_tellProcess) (maxL := 5) (ret := (some .int)) (by decide) rfl ?_
  intro p e s m args below meth c s₁ B hml hv
  obtain ⟨rfl, hsz, hM, hP, hK, hD0⟩ := hv
  have hx := B.exec
  have hb := B.bytes
  have hr := B.returns
  have hts := atoms_spec (ws := .code yX3_tellProcess cX3_tellProcess 5 (some .int) :: wP) B.pre
  have hown : s.vm.findClass RX3 = some m.cls := findClass_of_methodNamed B.named
  subst hsz
  have hD := hD0.self (sz := s.heap.size)
  generalize hAe : va_A [(h0, .inr (3, fm))] s.heap.size = A at hD ⊢
  have hA : ∀ q : Nat, s.heap.size ≤ q → A q := fun q h => by rw [← hAe]; exact Or.inr h
  have hS : va_S A s.heap s.heap [] := va_S.rf
  have hl := lv_entry ([.ref h0, .int a1, .int a2]) (n := 5) (Nat.le_of_ble_eq_true rfl)
  rw [lg_entry_eq]
  generalize (lg_sl ([.ref h0, .int a1, .int a2]) ++ List.replicate (5 - (lg_sl ([.ref h0, .int a1, .int a2])).length) Slot.unset).toArray = ls at hl ⊢
  obtain ⟨H, hHe⟩ : ∃ H, H = s.heap := ⟨_, rfl⟩
  rw [← hHe] at hP ⊢
  have hS : va_S A s.heap H [] := by rw [hHe]; exact hS
  have hl : lv_has ls 5 [(0, .ref h0), (1, .int a1), (2, .int a2)] := hl
  refine lv_aload_n hx hb dX3_tellProcess_0 rfl (lv_at hl 0 rfl) ?_
  refine va_get (D := (dC, dI)) (ci := 3) (v := .int 0) (C := RX3) (T := TX3) (N := 21) hx hb hts iX3 hown hK hP 0 rfl rfl 0 (by decide) (hts _ (bP 390 rfl)) (fun _ h9 => h9) (kJ_at hM 0 rfl) dX3_tellProcess_1 ?_
  refine lv_if_eq (tgt := 18) hx hb dX3_tellProcess_4 (by decide) (fun _ => ?_) (fun h => absurd h (by decide))
  refine lv_null hx hb dX3_tellProcess_18 ?_
  refine lv_astore_nN (lv' := [(3, .null), (0, .ref h0), (1, .int a1), (2, .int a2)]) hx hb dX3_tellProcess_19 rfl hl (by decide) rfl (fun ls hl => ?_)
  refine lv_aload_nN hx hb dX3_tellProcess_20 rfl (lv_at hl 0 rfl) ?_
  refine lv_ifnonnullN hx hb dX3_tellProcess_21 ?_
  refine lv_iconst (v := (-1)) hx hb dX3_tellProcess_24 (by decide) ?_
  exact W.iret (v := (-1)) hx hb hr (fun t ht hW => ⟨⟨(-1), (), rfl, rfl, trivial⟩, hS.F ht⟩) hS.2.2 dX3_tellProcess_25
set_option maxHeartbeats 4000000 in
set_option maxRecDepth 100000 in
/-- c_Machine_tellCell -/
theorem c_Machine_tellCell (l : Launch) (dC : Nat → ClassId) (dI : Nat → Nat → Nat) (h0 sz : Nat) (fm : List Value) (a1 : Int32) : Met l yX3_tellCell (.code yX3_tellCell cX3_tellCell 5 (some .int) :: wP) ({ frames := 0, cells := 0, slots := 0, locals := 0 }) (va_Pc [.ref h0, .int a1] (fun U => U.heap.size = sz ∧ kJ 21 [(0, .int 0)] fm ∧ va_P (dC, dI) vwCl [(h0, .inr (3, fm))] U.heap ∧ va_K (dC, dI) vwCl [] U ∧ va_D (fun _ => True) [(h0, .inr (3, fm))])) (va_Qi (fun r (_ : Unit) => r = 0) (fun (_ : Unit) (_ : State) => True) (va_A [(h0, .inr (3, fm))] sz)) 0 0 (va_A [(h0, .inr (3, fm))] sz) := by
  refine Met.ofW (cc := cX3_tellCell) (maxL := 5) (ret := (some .int)) (by decide) rfl ?_
  intro p e s m args below meth c s₁ B hml hv
  obtain ⟨rfl, hsz, hM, hP, hK, hD0⟩ := hv
  have hx := B.exec
  have hb := B.bytes
  have hr := B.returns
  have hts := atoms_spec (ws := .code yX3_tellCell cX3_tellCell 5 (some .int) :: wP) B.pre
  have hown : s.vm.findClass RX3 = some m.cls := findClass_of_methodNamed B.named
  subst hsz
  have hD := hD0.self (sz := s.heap.size)
  generalize hAe : va_A [(h0, .inr (3, fm))] s.heap.size = A at hD ⊢
  have hA : ∀ q : Nat, s.heap.size ≤ q → A q := fun q h => by rw [← hAe]; exact Or.inr h
  have hS : va_S A s.heap s.heap [] := va_S.rf
  have hl := lv_entry ([.ref h0, .int a1]) (n := 5) (Nat.le_of_ble_eq_true rfl)
  rw [lg_entry_eq]
  generalize (lg_sl ([.ref h0, .int a1]) ++ List.replicate (5 - (lg_sl ([.ref h0, .int a1])).length) Slot.unset).toArray = ls at hl ⊢
  obtain ⟨H, hHe⟩ : ∃ H, H = s.heap := ⟨_, rfl⟩
  rw [← hHe] at hP ⊢
  have hS : va_S A s.heap H [] := by rw [hHe]; exact hS
  have hl : lv_has ls 5 [(0, .ref h0), (1, .int a1)] := hl
  refine lv_aload_n hx hb dX3_tellCell_0 rfl (lv_at hl 0 rfl) ?_
  refine va_get (D := (dC, dI)) (ci := 3) (v := .int 0) (C := RX3) (T := TX3) (N := 21) hx hb hts iX3 hown hK hP 0 rfl rfl 0 (by decide) (hts _ (bP 390 rfl)) (fun _ h9 => h9) (kJ_at hM 0 rfl) dX3_tellCell_1 ?_
  refine lv_if_eq (tgt := 11) hx hb dX3_tellCell_4 (by decide) (fun _ => ?_) (fun h => absurd h (by decide))
  refine lv_iconst (v := 0) hx hb dX3_tellCell_11 (by decide) ?_
  exact W.iret (v := 0) hx hb hr (fun t ht hW => ⟨⟨0, (), rfl, rfl, trivial⟩, hS.F ht⟩) hS.2.2 dX3_tellCell_12
set_option maxHeartbeats 4000000 in
set_option maxRecDepth 100000 in
/-- c_Machine_tellMeeting -/
theorem c_Machine_tellMeeting (l : Launch) (dC : Nat → ClassId) (dI : Nat → Nat → Nat) (h0 sz : Nat) (fm : List Value) (a1 a2 : Int32) : Met l yX3_tellMeeting (.code yX3_tellMeeting cX3_tellMeeting 3 (some .int) :: wP) ({ frames := 0, cells := 0, slots := 0, locals := 0 }) (va_Pc [.ref h0, .int a1, .int a2] (fun U => U.heap.size = sz ∧ kJ 21 [(0, .int 0)] fm ∧ va_P (dC, dI) vwCl [(h0, .inr (3, fm))] U.heap ∧ va_K (dC, dI) vwCl [] U ∧ va_D (fun _ => True) [(h0, .inr (3, fm))])) (va_Qi (fun r (_ : Unit) => r = -1) (fun (_ : Unit) (_ : State) => True) (va_A [(h0, .inr (3, fm))] sz)) 0 0 (va_A [(h0, .inr (3, fm))] sz) := by
  refine Met.ofW (cc := cX3_tellMeeting) (maxL := 3) (ret := (some .int)) (by decide) rfl ?_
  intro p e s m args below meth c s₁ B hml hv
  obtain ⟨rfl, hsz, hM, hP, hK, hD0⟩ := hv
  have hx := B.exec
  have hb := B.bytes
  have hr := B.returns
  have hts := atoms_spec (ws := .code yX3_tellMeeting cX3_tellMeeting 3 (some .int) :: wP) B.pre
  have hown : s.vm.findClass RX3 = some m.cls := findClass_of_methodNamed B.named
  subst hsz
  have hD := hD0.self (sz := s.heap.size)
  generalize hAe : va_A [(h0, .inr (3, fm))] s.heap.size = A at hD ⊢
  have hA : ∀ q : Nat, s.heap.size ≤ q → A q := fun q h => by rw [← hAe]; exact Or.inr h
  have hS : va_S A s.heap s.heap [] := va_S.rf
  have hl := lv_entry ([.ref h0, .int a1, .int a2]) (n := 3) (Nat.le_of_ble_eq_true rfl)
  rw [lg_entry_eq]
  generalize (lg_sl ([.ref h0, .int a1, .int a2]) ++ List.replicate (3 - (lg_sl ([.ref h0, .int a1, .int a2])).length) Slot.unset).toArray = ls at hl ⊢
  obtain ⟨H, hHe⟩ : ∃ H, H = s.heap := ⟨_, rfl⟩
  rw [← hHe] at hP ⊢
  have hS : va_S A s.heap H [] := by rw [hHe]; exact hS
  have hl : lv_has ls 3 [(0, .ref h0), (1, .int a1), (2, .int a2)] := hl
  refine lv_aload_n hx hb dX3_tellMeeting_0 rfl (lv_at hl 0 rfl) ?_
  refine va_get (D := (dC, dI)) (ci := 3) (v := .int 0) (C := RX3) (T := TX3) (N := 21) hx hb hts iX3 hown hK hP 0 rfl rfl 0 (by decide) (hts _ (bP 390 rfl)) (fun _ h9 => h9) (kJ_at hM 0 rfl) dX3_tellMeeting_1 ?_
  refine lv_if_eq (tgt := 19) hx hb dX3_tellMeeting_4 (by decide) (fun _ => ?_) (fun h => absurd h (by decide))
  refine lv_iconst (v := (-1)) hx hb dX3_tellMeeting_19 (by decide) ?_
  exact W.iret (v := (-1)) hx hb hr (fun t ht hW => ⟨⟨(-1), (), rfl, rfl, trivial⟩, hS.F ht⟩) hS.2.2 dX3_tellMeeting_20
set_option maxHeartbeats 4000000 in
set_option maxRecDepth 100000 in
/-- c_Machine_tally -/
theorem c_Machine_tally (l : Launch) (dC : Nat → ClassId) (dI : Nat → Nat → Nat) (h0 sz : Nat) (fm : List Value) (a1 : Int32) : Met l yX3_tally (.code yX3_tally cX3_tally 2 (some .int) :: wP) ({ frames := 0, cells := 0, slots := 0, locals := 0 }) (va_Pc [.ref h0, .int a1] (fun U => U.heap.size = sz ∧ kJ 21 [(0, .int 0)] fm ∧ va_P (dC, dI) vwCl [(h0, .inr (3, fm))] U.heap ∧ va_K (dC, dI) vwCl [] U ∧ va_D (fun _ => True) [(h0, .inr (3, fm))])) (va_Qi (fun r (_ : Unit) => r = 0) (fun (_ : Unit) (_ : State) => True) (va_A [(h0, .inr (3, fm))] sz)) 0 0 (va_A [(h0, .inr (3, fm))] sz) := by
  refine Met.ofW (cc := cX3_tally) (maxL := 2) (ret := (some .int)) (by decide) rfl ?_
  intro p e s m args below meth c s₁ B hml hv
  obtain ⟨rfl, hsz, hM, hP, hK, hD0⟩ := hv
  have hx := B.exec
  have hb := B.bytes
  have hr := B.returns
  have hts := atoms_spec (ws := .code yX3_tally cX3_tally 2 (some .int) :: wP) B.pre
  have hown : s.vm.findClass RX3 = some m.cls := findClass_of_methodNamed B.named
  subst hsz
  have hD := hD0.self (sz := s.heap.size)
  generalize hAe : va_A [(h0, .inr (3, fm))] s.heap.size = A at hD ⊢
  have hA : ∀ q : Nat, s.heap.size ≤ q → A q := fun q h => by rw [← hAe]; exact Or.inr h
  have hS : va_S A s.heap s.heap [] := va_S.rf
  have hl := lv_entry ([.ref h0, .int a1]) (n := 2) (Nat.le_of_ble_eq_true rfl)
  rw [lg_entry_eq]
  generalize (lg_sl ([.ref h0, .int a1]) ++ List.replicate (2 - (lg_sl ([.ref h0, .int a1])).length) Slot.unset).toArray = ls at hl ⊢
  obtain ⟨H, hHe⟩ : ∃ H, H = s.heap := ⟨_, rfl⟩
  rw [← hHe] at hP ⊢
  have hS : va_S A s.heap H [] := by rw [hHe]; exact hS
  have hl : lv_has ls 2 [(0, .ref h0), (1, .int a1)] := hl
  refine lv_aload_n hx hb dX3_tally_0 rfl (lv_at hl 0 rfl) ?_
  refine va_get (D := (dC, dI)) (ci := 3) (v := .int 0) (C := RX3) (T := TX3) (N := 21) hx hb hts iX3 hown hK hP 0 rfl rfl 0 (by decide) (hts _ (bP 390 rfl)) (fun _ h9 => h9) (kJ_at hM 0 rfl) dX3_tally_1 ?_
  refine lv_if_ne (tgt := 9) hx hb dX3_tally_4 (by decide) (fun h => absurd h (by decide)) (fun _ => ?_)
  refine lv_iconst (v := 0) hx hb dX3_tally_7 (by decide) ?_
  exact W.iret (v := 0) hx hb hr (fun t ht hW => ⟨⟨0, (), rfl, rfl, trivial⟩, hS.F ht⟩) hS.2.2 dX3_tally_8
set_option maxHeartbeats 4000000 in
set_option maxRecDepth 100000 in
/-- c_MeetingHouse_key -/
theorem c_MeetingHouse_key (l : Launch) (dC : Nat → ClassId) (dI : Nat → Nat → Nat) (h0 sz : Nat) (fx fm : List Value) (qm : Nat) (a1 : Int32) : Met l yX11_key (.code yX11_key cX11_key 2 (some .boolean) :: wP) ({ frames := 1, cells := 0, slots := 0, locals := 26 }) (va_Pc [.ref h0, .int a1] (fun U => U.heap.size = sz ∧ kJ 9 [(7, .ref qm)] fx ∧ kJ 21 [(0, .int 0)] fm ∧ va_P (dC, dI) vwCl [(h0, .inr (11, fx)), (qm, .inr (3, fm))] U.heap ∧ va_K (dC, dI) vwCl [] U ∧ va_D (fun _ => True) [(h0, .inr (11, fx)), (qm, .inr (3, fm))])) (va_Qi (fun r (_ : Unit) => r = 0) (fun (_ : Unit) (_ : State) => True) (va_A [(h0, .inr (11, fx)), (qm, .inr (3, fm))] sz)) 0 0 (va_A [(h0, .inr (11, fx)), (qm, .inr (3, fm))] sz) := by
  refine Met.ofW (cc := cX11_key) (maxL := 2) (ret := (some .boolean)) (by decide) rfl ?_
  intro p e s m args below meth c s₁ B hml hv
  obtain ⟨rfl, hsz, hJ, hM, hP, hK, hD0⟩ := hv
  have hx := B.exec
  have hb := B.bytes
  have hr := B.returns
  have hts := atoms_spec (ws := .code yX11_key cX11_key 2 (some .boolean) :: wP) B.pre
  have hown : s.vm.findClass RX11 = some m.cls := findClass_of_methodNamed B.named
  subst hsz
  have hD := hD0.self (sz := s.heap.size)
  generalize hAe : va_A [(h0, .inr (11, fx)), (qm, .inr (3, fm))] s.heap.size = A at hD ⊢
  have hA : ∀ q : Nat, s.heap.size ≤ q → A q := fun q h => by rw [← hAe]; exact Or.inr h
  have hS : va_S A s.heap s.heap [] := va_S.rf
  have hl := lv_entry ([.ref h0, .int a1]) (n := 2) (Nat.le_of_ble_eq_true rfl)
  rw [lg_entry_eq]
  generalize (lg_sl ([.ref h0, .int a1]) ++ List.replicate (2 - (lg_sl ([.ref h0, .int a1])).length) Slot.unset).toArray = ls at hl ⊢
  obtain ⟨H, hHe⟩ : ∃ H, H = s.heap := ⟨_, rfl⟩
  rw [← hHe] at hP ⊢
  have hS : va_S A s.heap H [] := by rw [hHe]; exact hS
  have hl : lv_has ls 2 [(0, .ref h0), (1, .int a1)] := hl
  refine lv_aload_n hx hb dX11_key_0 rfl (lv_at hl 0 rfl) ?_
  refine va_get (D := (dC, dI)) (ci := 11) (v := .ref qm) (C := RX11) (T := TX11) (N := 9) hx hb hts iX11 hown hK hP 0 rfl rfl 7 (by decide) (hts _ (bP 387 rfl)) (fun _ h9 => h9) (kJ_at hJ 0 rfl) dX11_key_1 ?_
  refine lv_iload_n hx hb dX11_key_4 rfl (lv_at hl 1 rfl) ?_
  refine lv_sipush (v := 255) hx hb dX11_key_5 (by decide) ?_
  refine lv_iand hx hb dX11_key_8 ?_
  refine lv_topi (fun z1 ez1 => ?_)
  have hPc := hP.sub (ws' := [(qm, .inr (3, fm))]) [1] rfl
  have hDc := hD.sub (ws' := [(qm, .inr (3, fm))]) [1] (by decide) rfl
  have hKc := hK.sub (tys' := []) [] rfl
  have hFc := va_free (wc := [(qm, .inr (3, fm))]) hD hS hA [1] rfl
  refine va_calli (va_runV (As := [.int z1]) (rest := []) ⟨hx, hb, hml, hown, hts⟩ (c_Machine_press l dC dI qm H.size fm z1) (cwV 1 hts (gV (y := yX3_press) _ 397 398 399 384 389 rfl rfl rfl rfl rfl) rfl rfl rfl (by decide +kernel) ⟨Nat.le_of_ble_eq_true rfl, Nat.le_of_ble_eq_true rfl⟩) ⟨fun a U g mk q => by obtain ⟨q0, q1, qJ, qP, qK, qD⟩ := q; exact ⟨q0, q1, qJ, qP, va_K.moved (u := U) (U := U.calling g mk a) (Vm.Alike.refl U.vm) qK, qD⟩, va_recv hKc hPc (ci := 3) (q0 := 0) rfl rfl, fun U hU hW => ⟨rfl, by rw [hU], hM, by rw [hU]; exact hPc, va_K.moved hW.alike hKc, hDc.weaken (fun _ _ _ _ => trivial)⟩⟩ rfl rfl hl.1 rfl (lv_room (Nat.le_of_ble_eq_true rfl)) dX11_key_9 ⟨Nat.le_of_ble_eq_true rfl, Nat.le_of_ble_eq_true rfl⟩) hS (fun q _ h => hFc q h) hFc (fun r u t H1 locs ht hvm hw hB hz1 hk1 hS => ?_)
  subst hw
  exact W.zret (v := 0) hx hb hr (by first | decide | (rw [hw]; decide)) (fun t ht hW => ⟨⟨0, (), rfl, rfl, trivial⟩, hS.F ht⟩) hS.2.2 dX11_key_12
set_option maxHeartbeats 4000000 in
set_option maxRecDepth 100000 in
/-- c_MeetingHouse_output -/
theorem c_MeetingHouse_output (l : Launch) (dC : Nat → ClassId) (dI : Nat → Nat → Nat) (h0 sz : Nat) (fx fm : List Value) (qm : Nat) (a1 : Int32) : Met l yX11_output (.code yX11_output cX11_output 2 (some .int) :: wP) ({ frames := 1, cells := 0, slots := 0, locals := 26 }) (va_Pc [.ref h0, .int a1] (fun U => U.heap.size = sz ∧ kJ 9 [(7, .ref qm)] fx ∧ kJ 21 [(0, .int 0)] fm ∧ va_P (dC, dI) vwCl [(h0, .inr (11, fx)), (qm, .inr (3, fm))] U.heap ∧ va_K (dC, dI) vwCl [] U ∧ va_D (fun _ => True) [(h0, .inr (11, fx)), (qm, .inr (3, fm))])) (va_Qi (fun r (_ : Unit) => r = (-1)) (fun (_ : Unit) (_ : State) => True) (va_A [(h0, .inr (11, fx)), (qm, .inr (3, fm))] sz)) 0 0 (va_A [(h0, .inr (11, fx)), (qm, .inr (3, fm))] sz) := by
  refine Met.ofW (cc := cX11_output) (maxL := 2) (ret := (some .int)) (by decide) rfl ?_
  intro p e s m args below meth c s₁ B hml hv
  obtain ⟨rfl, hsz, hJ, hM, hP, hK, hD0⟩ := hv
  have hx := B.exec
  have hb := B.bytes
  have hr := B.returns
  have hts := atoms_spec (ws := .code yX11_output cX11_output 2 (some .int) :: wP) B.pre
  have hown : s.vm.findClass RX11 = some m.cls := findClass_of_methodNamed B.named
  subst hsz
  have hD := hD0.self (sz := s.heap.size)
  generalize hAe : va_A [(h0, .inr (11, fx)), (qm, .inr (3, fm))] s.heap.size = A at hD ⊢
  have hA : ∀ q : Nat, s.heap.size ≤ q → A q := fun q h => by rw [← hAe]; exact Or.inr h
  have hS : va_S A s.heap s.heap [] := va_S.rf
  have hl := lv_entry ([.ref h0, .int a1]) (n := 2) (Nat.le_of_ble_eq_true rfl)
  rw [lg_entry_eq]
  generalize (lg_sl ([.ref h0, .int a1]) ++ List.replicate (2 - (lg_sl ([.ref h0, .int a1])).length) Slot.unset).toArray = ls at hl ⊢
  obtain ⟨H, hHe⟩ : ∃ H, H = s.heap := ⟨_, rfl⟩
  rw [← hHe] at hP ⊢
  have hS : va_S A s.heap H [] := by rw [hHe]; exact hS
  have hl : lv_has ls 2 [(0, .ref h0), (1, .int a1)] := hl
  refine lv_aload_n hx hb dX11_output_0 rfl (lv_at hl 0 rfl) ?_
  refine va_get (D := (dC, dI)) (ci := 11) (v := .ref qm) (C := RX11) (T := TX11) (N := 9) hx hb hts iX11 hown hK hP 0 rfl rfl 7 (by decide) (hts _ (bP 387 rfl)) (fun _ h9 => h9) (kJ_at hJ 0 rfl) dX11_output_1 ?_
  refine lv_iload_n hx hb dX11_output_4 rfl (lv_at hl 1 rfl) ?_
  have hPc := hP.sub (ws' := [(qm, .inr (3, fm))]) [1] rfl
  have hDc := hD.sub (ws' := [(qm, .inr (3, fm))]) [1] (by decide) rfl
  have hKc := hK.sub (tys' := []) [] rfl
  have hFc := va_free (wc := [(qm, .inr (3, fm))]) hD hS hA [1] rfl
  refine va_calli (va_runV (As := [.int a1]) (rest := []) ⟨hx, hb, hml, hown, hts⟩ (c_Machine_shown l dC dI qm H.size fm a1) (cwV 1 hts (gV (y := yX3_shown) _ 401 402 403 384 391 rfl rfl rfl rfl rfl) rfl rfl rfl (by decide +kernel) ⟨Nat.le_of_ble_eq_true rfl, Nat.le_of_ble_eq_true rfl⟩) ⟨fun a U g mk q => by obtain ⟨q0, q1, qJ, qP, qK, qD⟩ := q; exact ⟨q0, q1, qJ, qP, va_K.moved (u := U) (U := U.calling g mk a) (Vm.Alike.refl U.vm) qK, qD⟩, va_recv hKc hPc (ci := 3) (q0 := 0) rfl rfl, fun U hU hW => ⟨rfl, by rw [hU], hM, by rw [hU]; exact hPc, va_K.moved hW.alike hKc, hDc.weaken (fun _ _ _ _ => trivial)⟩⟩ rfl rfl hl.1 rfl (lv_room (Nat.le_of_ble_eq_true rfl)) dX11_output_5 ⟨Nat.le_of_ble_eq_true rfl, Nat.le_of_ble_eq_true rfl⟩) hS (fun q _ h => hFc q h) hFc (fun r u t H1 locs ht hvm hw hB hz1 hk1 hS => ?_)
  subst hw
  exact W.iret (v := (-1)) hx hb hr (fun t ht hW => ⟨⟨(-1), (), rfl, rfl, trivial⟩, hS.F ht⟩) hS.2.2 dX11_output_8
set_option maxHeartbeats 4000000 in
set_option maxRecDepth 100000 in
/-- c_MeetingHouse_process -/
theorem c_MeetingHouse_process (l : Launch) (dC : Nat → ClassId) (dI : Nat → Nat → Nat) (h0 sz : Nat) (fx fm : List Value) (qm : Nat) (a1 a2 : Int32) : Met l yX11_process (.code yX11_process cX11_process 3 (some .int) :: wP) ({ frames := 1, cells := 0, slots := 0, locals := 26 }) (va_Pc [.ref h0, .int a1, .int a2] (fun U => U.heap.size = sz ∧ kJ 9 [(7, .ref qm)] fx ∧ kJ 21 [(0, .int 0)] fm ∧ va_P (dC, dI) vwCl [(h0, .inr (11, fx)), (qm, .inr (3, fm))] U.heap ∧ va_K (dC, dI) vwCl [] U ∧ va_D (fun _ => True) [(h0, .inr (11, fx)), (qm, .inr (3, fm))])) (va_Qi (fun r (_ : Unit) => r = (-1)) (fun (_ : Unit) (_ : State) => True) (va_A [(h0, .inr (11, fx)), (qm, .inr (3, fm))] sz)) 0 0 (va_A [(h0, .inr (11, fx)), (qm, .inr (3, fm))] sz) := by
  refine Met.ofW (cc := cX11_process) (maxL := 3) (ret := (some .int)) (by decide) rfl ?_
  intro p e s m args below meth c s₁ B hml hv
  obtain ⟨rfl, hsz, hJ, hM, hP, hK, hD0⟩ := hv
  have hx := B.exec
  have hb := B.bytes
  have hr := B.returns
  have hts := atoms_spec (ws := .code yX11_process cX11_process 3 (some .int) :: wP) B.pre
  have hown : s.vm.findClass RX11 = some m.cls := findClass_of_methodNamed B.named
  subst hsz
  have hD := hD0.self (sz := s.heap.size)
  generalize hAe : va_A [(h0, .inr (11, fx)), (qm, .inr (3, fm))] s.heap.size = A at hD ⊢
  have hA : ∀ q : Nat, s.heap.size ≤ q → A q := fun q h => by rw [← hAe]; exact Or.inr h
  have hS : va_S A s.heap s.heap [] := va_S.rf
  have hl := lv_entry ([.ref h0, .int a1, .int a2]) (n := 3) (Nat.le_of_ble_eq_true rfl)
  rw [lg_entry_eq]
  generalize (lg_sl ([.ref h0, .int a1, .int a2]) ++ List.replicate (3 - (lg_sl ([.ref h0, .int a1, .int a2])).length) Slot.unset).toArray = ls at hl ⊢
  obtain ⟨H, hHe⟩ : ∃ H, H = s.heap := ⟨_, rfl⟩
  rw [← hHe] at hP ⊢
  have hS : va_S A s.heap H [] := by rw [hHe]; exact hS
  have hl : lv_has ls 3 [(0, .ref h0), (1, .int a1), (2, .int a2)] := hl
  refine lv_aload_n hx hb dX11_process_0 rfl (lv_at hl 0 rfl) ?_
  refine va_get (D := (dC, dI)) (ci := 11) (v := .ref qm) (C := RX11) (T := TX11) (N := 9) hx hb hts iX11 hown hK hP 0 rfl rfl 7 (by decide) (hts _ (bP 387 rfl)) (fun _ h9 => h9) (kJ_at hJ 0 rfl) dX11_process_1 ?_
  refine lv_iload_n hx hb dX11_process_4 rfl (lv_at hl 1 rfl) ?_
  refine lv_iload_n hx hb dX11_process_5 rfl (lv_at hl 2 rfl) ?_
  have hPc := hP.sub (ws' := [(qm, .inr (3, fm))]) [1] rfl
  have hDc := hD.sub (ws' := [(qm, .inr (3, fm))]) [1] (by decide) rfl
  have hKc := hK.sub (tys' := []) [] rfl
  have hFc := va_free (wc := [(qm, .inr (3, fm))]) hD hS hA [1] rfl
  refine va_calli (va_runV (As := [.int a1, .int a2]) (rest := []) ⟨hx, hb, hml, hown, hts⟩ (c_Machine_tellProcess l dC dI qm H.size fm a1 a2) (cwV 2 hts (gV (y := yX3_tellProcess) _ 405 406 407 384 392 rfl rfl rfl rfl rfl) rfl rfl rfl (by decide +kernel) ⟨Nat.le_of_ble_eq_true rfl, Nat.le_of_ble_eq_true rfl⟩) ⟨fun a U g mk q => by obtain ⟨q0, q1, qJ, qP, qK, qD⟩ := q; exact ⟨q0, q1, qJ, qP, va_K.moved (u := U) (U := U.calling g mk a) (Vm.Alike.refl U.vm) qK, qD⟩, va_recv hKc hPc (ci := 3) (q0 := 0) rfl rfl, fun U hU hW => ⟨rfl, by rw [hU], hM, by rw [hU]; exact hPc, va_K.moved hW.alike hKc, hDc.weaken (fun _ _ _ _ => trivial)⟩⟩ rfl rfl hl.1 rfl (lv_room (Nat.le_of_ble_eq_true rfl)) dX11_process_6 ⟨Nat.le_of_ble_eq_true rfl, Nat.le_of_ble_eq_true rfl⟩) hS (fun q _ h => hFc q h) hFc (fun r u t H1 locs ht hvm hw hB hz1 hk1 hS => ?_)
  subst hw
  exact W.iret (v := (-1)) hx hb hr (fun t ht hW => ⟨⟨(-1), (), rfl, rfl, trivial⟩, hS.F ht⟩) hS.2.2 dX11_process_9
set_option maxHeartbeats 4000000 in
set_option maxRecDepth 100000 in
/-- c_MeetingHouse_cell -/
theorem c_MeetingHouse_cell (l : Launch) (dC : Nat → ClassId) (dI : Nat → Nat → Nat) (h0 sz : Nat) (fx fm : List Value) (qm : Nat) (a1 : Int32) : Met l yX11_cell (.code yX11_cell cX11_cell 2 (some .int) :: wP) ({ frames := 1, cells := 0, slots := 0, locals := 26 }) (va_Pc [.ref h0, .int a1] (fun U => U.heap.size = sz ∧ kJ 9 [(7, .ref qm)] fx ∧ kJ 21 [(0, .int 0)] fm ∧ va_P (dC, dI) vwCl [(h0, .inr (11, fx)), (qm, .inr (3, fm))] U.heap ∧ va_K (dC, dI) vwCl [] U ∧ va_D (fun _ => True) [(h0, .inr (11, fx)), (qm, .inr (3, fm))])) (va_Qi (fun r (_ : Unit) => r = 0) (fun (_ : Unit) (_ : State) => True) (va_A [(h0, .inr (11, fx)), (qm, .inr (3, fm))] sz)) 0 0 (va_A [(h0, .inr (11, fx)), (qm, .inr (3, fm))] sz) := by
  refine Met.ofW (cc := cX11_cell) (maxL := 2) (ret := (some .int)) (by decide) rfl ?_
  intro p e s m args below meth c s₁ B hml hv
  obtain ⟨rfl, hsz, hJ, hM, hP, hK, hD0⟩ := hv
  have hx := B.exec
  have hb := B.bytes
  have hr := B.returns
  have hts := atoms_spec (ws := .code yX11_cell cX11_cell 2 (some .int) :: wP) B.pre
  have hown : s.vm.findClass RX11 = some m.cls := findClass_of_methodNamed B.named
  subst hsz
  have hD := hD0.self (sz := s.heap.size)
  generalize hAe : va_A [(h0, .inr (11, fx)), (qm, .inr (3, fm))] s.heap.size = A at hD ⊢
  have hA : ∀ q : Nat, s.heap.size ≤ q → A q := fun q h => by rw [← hAe]; exact Or.inr h
  have hS : va_S A s.heap s.heap [] := va_S.rf
  have hl := lv_entry ([.ref h0, .int a1]) (n := 2) (Nat.le_of_ble_eq_true rfl)
  rw [lg_entry_eq]
  generalize (lg_sl ([.ref h0, .int a1]) ++ List.replicate (2 - (lg_sl ([.ref h0, .int a1])).length) Slot.unset).toArray = ls at hl ⊢
  obtain ⟨H, hHe⟩ : ∃ H, H = s.heap := ⟨_, rfl⟩
  rw [← hHe] at hP ⊢
  have hS : va_S A s.heap H [] := by rw [hHe]; exact hS
  have hl : lv_has ls 2 [(0, .ref h0), (1, .int a1)] := hl
  refine lv_aload_n hx hb dX11_cell_0 rfl (lv_at hl 0 rfl) ?_
  refine va_get (D := (dC, dI)) (ci := 11) (v := .ref qm) (C := RX11) (T := TX11) (N := 9) hx hb hts iX11 hown hK hP 0 rfl rfl 7 (by decide) (hts _ (bP 387 rfl)) (fun _ h9 => h9) (kJ_at hJ 0 rfl) dX11_cell_1 ?_
  refine lv_iload_n hx hb dX11_cell_4 rfl (lv_at hl 1 rfl) ?_
  have hPc := hP.sub (ws' := [(qm, .inr (3, fm))]) [1] rfl
  have hDc := hD.sub (ws' := [(qm, .inr (3, fm))]) [1] (by decide) rfl
  have hKc := hK.sub (tys' := []) [] rfl
  have hFc := va_free (wc := [(qm, .inr (3, fm))]) hD hS hA [1] rfl
  refine va_calli (va_runV (As := [.int a1]) (rest := []) ⟨hx, hb, hml, hown, hts⟩ (c_Machine_tellCell l dC dI qm H.size fm a1) (cwV 1 hts (gV (y := yX3_tellCell) _ 409 410 411 384 393 rfl rfl rfl rfl rfl) rfl rfl rfl (by decide +kernel) ⟨Nat.le_of_ble_eq_true rfl, Nat.le_of_ble_eq_true rfl⟩) ⟨fun a U g mk q => by obtain ⟨q0, q1, qJ, qP, qK, qD⟩ := q; exact ⟨q0, q1, qJ, qP, va_K.moved (u := U) (U := U.calling g mk a) (Vm.Alike.refl U.vm) qK, qD⟩, va_recv hKc hPc (ci := 3) (q0 := 0) rfl rfl, fun U hU hW => ⟨rfl, by rw [hU], hM, by rw [hU]; exact hPc, va_K.moved hW.alike hKc, hDc.weaken (fun _ _ _ _ => trivial)⟩⟩ rfl rfl hl.1 rfl (lv_room (Nat.le_of_ble_eq_true rfl)) dX11_cell_5 ⟨Nat.le_of_ble_eq_true rfl, Nat.le_of_ble_eq_true rfl⟩) hS (fun q _ h => hFc q h) hFc (fun r u t H1 locs ht hvm hw hB hz1 hk1 hS => ?_)
  subst hw
  exact W.iret (v := 0) hx hb hr (fun t ht hW => ⟨⟨0, (), rfl, rfl, trivial⟩, hS.F ht⟩) hS.2.2 dX11_cell_8
set_option maxHeartbeats 4000000 in
set_option maxRecDepth 100000 in
/-- c_MeetingHouse_meeting -/
theorem c_MeetingHouse_meeting (l : Launch) (dC : Nat → ClassId) (dI : Nat → Nat → Nat) (h0 sz : Nat) (fx fm : List Value) (qm : Nat) (a1 a2 : Int32) : Met l yX11_meeting (.code yX11_meeting cX11_meeting 3 (some .int) :: wP) ({ frames := 1, cells := 0, slots := 0, locals := 26 }) (va_Pc [.ref h0, .int a1, .int a2] (fun U => U.heap.size = sz ∧ kJ 9 [(7, .ref qm)] fx ∧ kJ 21 [(0, .int 0)] fm ∧ va_P (dC, dI) vwCl [(h0, .inr (11, fx)), (qm, .inr (3, fm))] U.heap ∧ va_K (dC, dI) vwCl [] U ∧ va_D (fun _ => True) [(h0, .inr (11, fx)), (qm, .inr (3, fm))])) (va_Qi (fun r (_ : Unit) => r = (-1)) (fun (_ : Unit) (_ : State) => True) (va_A [(h0, .inr (11, fx)), (qm, .inr (3, fm))] sz)) 0 0 (va_A [(h0, .inr (11, fx)), (qm, .inr (3, fm))] sz) := by
  refine Met.ofW (cc := cX11_meeting) (maxL := 3) (ret := (some .int)) (by decide) rfl ?_
  intro p e s m args below meth c s₁ B hml hv
  obtain ⟨rfl, hsz, hJ, hM, hP, hK, hD0⟩ := hv
  have hx := B.exec
  have hb := B.bytes
  have hr := B.returns
  have hts := atoms_spec (ws := .code yX11_meeting cX11_meeting 3 (some .int) :: wP) B.pre
  have hown : s.vm.findClass RX11 = some m.cls := findClass_of_methodNamed B.named
  subst hsz
  have hD := hD0.self (sz := s.heap.size)
  generalize hAe : va_A [(h0, .inr (11, fx)), (qm, .inr (3, fm))] s.heap.size = A at hD ⊢
  have hA : ∀ q : Nat, s.heap.size ≤ q → A q := fun q h => by rw [← hAe]; exact Or.inr h
  have hS : va_S A s.heap s.heap [] := va_S.rf
  have hl := lv_entry ([.ref h0, .int a1, .int a2]) (n := 3) (Nat.le_of_ble_eq_true rfl)
  rw [lg_entry_eq]
  generalize (lg_sl ([.ref h0, .int a1, .int a2]) ++ List.replicate (3 - (lg_sl ([.ref h0, .int a1, .int a2])).length) Slot.unset).toArray = ls at hl ⊢
  obtain ⟨H, hHe⟩ : ∃ H, H = s.heap := ⟨_, rfl⟩
  rw [← hHe] at hP ⊢
  have hS : va_S A s.heap H [] := by rw [hHe]; exact hS
  have hl : lv_has ls 3 [(0, .ref h0), (1, .int a1), (2, .int a2)] := hl
  refine lv_aload_n hx hb dX11_meeting_0 rfl (lv_at hl 0 rfl) ?_
  refine va_get (D := (dC, dI)) (ci := 11) (v := .ref qm) (C := RX11) (T := TX11) (N := 9) hx hb hts iX11 hown hK hP 0 rfl rfl 7 (by decide) (hts _ (bP 387 rfl)) (fun _ h9 => h9) (kJ_at hJ 0 rfl) dX11_meeting_1 ?_
  refine lv_iload_n hx hb dX11_meeting_4 rfl (lv_at hl 1 rfl) ?_
  refine lv_iload_n hx hb dX11_meeting_5 rfl (lv_at hl 2 rfl) ?_
  have hPc := hP.sub (ws' := [(qm, .inr (3, fm))]) [1] rfl
  have hDc := hD.sub (ws' := [(qm, .inr (3, fm))]) [1] (by decide) rfl
  have hKc := hK.sub (tys' := []) [] rfl
  have hFc := va_free (wc := [(qm, .inr (3, fm))]) hD hS hA [1] rfl
  refine va_calli (va_runV (As := [.int a1, .int a2]) (rest := []) ⟨hx, hb, hml, hown, hts⟩ (c_Machine_tellMeeting l dC dI qm H.size fm a1 a2) (cwV 2 hts (gV (y := yX3_tellMeeting) _ 413 414 415 384 394 rfl rfl rfl rfl rfl) rfl rfl rfl (by decide +kernel) ⟨Nat.le_of_ble_eq_true rfl, Nat.le_of_ble_eq_true rfl⟩) ⟨fun a U g mk q => by obtain ⟨q0, q1, qJ, qP, qK, qD⟩ := q; exact ⟨q0, q1, qJ, qP, va_K.moved (u := U) (U := U.calling g mk a) (Vm.Alike.refl U.vm) qK, qD⟩, va_recv hKc hPc (ci := 3) (q0 := 0) rfl rfl, fun U hU hW => ⟨rfl, by rw [hU], hM, by rw [hU]; exact hPc, va_K.moved hW.alike hKc, hDc.weaken (fun _ _ _ _ => trivial)⟩⟩ rfl rfl hl.1 rfl (lv_room (Nat.le_of_ble_eq_true rfl)) dX11_meeting_6 ⟨Nat.le_of_ble_eq_true rfl, Nat.le_of_ble_eq_true rfl⟩) hS (fun q _ h => hFc q h) hFc (fun r u t H1 locs ht hvm hw hB hz1 hk1 hS => ?_)
  subst hw
  exact W.iret (v := (-1)) hx hb hr (fun t ht hW => ⟨⟨(-1), (), rfl, rfl, trivial⟩, hS.F ht⟩) hS.2.2 dX11_meeting_9
set_option maxHeartbeats 4000000 in
set_option maxRecDepth 100000 in
/-- c_MeetingHouse_clashes -/
theorem c_MeetingHouse_clashes (l : Launch) (dC : Nat → ClassId) (dI : Nat → Nat → Nat) (h0 sz : Nat) (fx : List Value) : Met l yX11_clashes (.code yX11_clashes cX11_clashes 1 (some .int) :: wP) ({ frames := 0, cells := 0, slots := 0, locals := 0 }) (va_Pc [.ref h0] (fun U => U.heap.size = sz ∧ True ∧ va_P (dC, dI) vwCl [(h0, .inr (11, fx))] U.heap ∧ va_K (dC, dI) vwCl [] U ∧ va_D (fun _ => True) [(h0, .inr (11, fx))])) (va_Qi (fun r (_ : Unit) => r = 0) (fun (_ : Unit) (_ : State) => True) (va_A [(h0, .inr (11, fx))] sz)) 0 0 (va_A [(h0, .inr (11, fx))] sz) := by
  refine Met.ofW (cc := cX11_clashes) (maxL := 1) (ret := (some .int)) (by decide) rfl ?_
  intro p e s m args below meth c s₁ B hml hv
  obtain ⟨rfl, hsz, hTr, hP, hK, hD0⟩ := hv
  have hx := B.exec
  have hb := B.bytes
  have hr := B.returns
  have hts := atoms_spec (ws := .code yX11_clashes cX11_clashes 1 (some .int) :: wP) B.pre
  have hown : s.vm.findClass RX11 = some m.cls := findClass_of_methodNamed B.named
  subst hsz
  have hD := hD0.self (sz := s.heap.size)
  generalize hAe : va_A [(h0, .inr (11, fx))] s.heap.size = A at hD ⊢
  have hA : ∀ q : Nat, s.heap.size ≤ q → A q := fun q h => by rw [← hAe]; exact Or.inr h
  have hS : va_S A s.heap s.heap [] := va_S.rf
  have hl := lv_entry ([.ref h0]) (n := 1) (Nat.le_of_ble_eq_true rfl)
  rw [lg_entry_eq]
  generalize (lg_sl ([.ref h0]) ++ List.replicate (1 - (lg_sl ([.ref h0])).length) Slot.unset).toArray = ls at hl ⊢
  obtain ⟨H, hHe⟩ : ∃ H, H = s.heap := ⟨_, rfl⟩
  rw [← hHe] at hP ⊢
  have hS : va_S A s.heap H [] := by rw [hHe]; exact hS
  have hl : lv_has ls 1 [(0, .ref h0)] := hl
  refine lv_iconst (v := 0) hx hb dX11_clashes_0 (by decide) ?_
  exact W.iret (v := 0) hx hb hr (fun t ht hW => ⟨⟨0, (), rfl, rfl, trivial⟩, hS.F ht⟩) hS.2.2 dX11_clashes_1
theorem cnt4 {x : Int32} (h : ¬ x ≤ 13) : (-1 : Int32) = cnt x := cnt2 (Int32.not_le.mp h)
theorem cnt5 {x : Int32} (h1 : ¬ x < 0) (h2 : x ≤ 13) : (0 : Int32) = cnt x := (if_neg (fun h => h.elim h1 (fun h => absurd h2 (Int32.not_le.mpr h)))).symm
set_option maxHeartbeats 4000000 in
set_option maxRecDepth 100000 in
/-- c_MeetingHouse_count -/
theorem c_MeetingHouse_count (l : Launch) (dC : Nat → ClassId) (dI : Nat → Nat → Nat) (h0 sz : Nat) (fx ft fm : List Value) (qt qm : Nat) (a1 : Int32) : Met l yX11_count (.code yX11_count cX11_count 2 (some .int) :: wP) ({ frames := 1, cells := 0, slots := 0, locals := 26 }) (va_Pc [.ref h0, .int a1] (fun U => U.heap.size = sz ∧ kJ 9 [(8, .int 0), (7, .ref qm), (0, .ref qt)] fx ∧ kJ 19 [(1, .int 0)] ft ∧ kJ 21 [(0, .int 0)] fm ∧ va_P (dC, dI) vwCl [(h0, .inr (11, fx)), (qt, .inr (7, ft)), (qm, .inr (3, fm))] U.heap ∧ va_K (dC, dI) vwCl [] U ∧ va_D (fun _ => True) [(h0, .inr (11, fx)), (qt, .inr (7, ft)), (qm, .inr (3, fm))])) (va_Qi (fun r (_ : Unit) => r = cnt a1) (fun (_ : Unit) (_ : State) => True) (va_A [(h0, .inr (11, fx)), (qt, .inr (7, ft)), (qm, .inr (3, fm))] sz)) 0 0 (va_A [(h0, .inr (11, fx)), (qt, .inr (7, ft)), (qm, .inr (3, fm))] sz) := by
  refine Met.ofW (cc := cX11_count) (maxL := 2) (ret := (some .int)) (by decide) rfl ?_
  intro p e s m args below meth c s₁ B hml hv
  obtain ⟨rfl, hsz, hJ, hT, hM, hP, hK, hD0⟩ := hv
  have hx := B.exec
  have hb := B.bytes
  have hr := B.returns
  have hts := atoms_spec (ws := .code yX11_count cX11_count 2 (some .int) :: wP) B.pre
  have hown : s.vm.findClass RX11 = some m.cls := findClass_of_methodNamed B.named
  subst hsz
  have hD := hD0.self (sz := s.heap.size)
  generalize hAe : va_A [(h0, .inr (11, fx)), (qt, .inr (7, ft)), (qm, .inr (3, fm))] s.heap.size = A at hD ⊢
  have hA : ∀ q : Nat, s.heap.size ≤ q → A q := fun q h => by rw [← hAe]; exact Or.inr h
  have hS : va_S A s.heap s.heap [] := va_S.rf
  have hl := lv_entry ([.ref h0, .int a1]) (n := 2) (Nat.le_of_ble_eq_true rfl)
  rw [lg_entry_eq]
  generalize (lg_sl ([.ref h0, .int a1]) ++ List.replicate (2 - (lg_sl ([.ref h0, .int a1])).length) Slot.unset).toArray = ls at hl ⊢
  obtain ⟨H, hHe⟩ : ∃ H, H = s.heap := ⟨_, rfl⟩
  rw [← hHe] at hP ⊢
  have hS : va_S A s.heap H [] := by rw [hHe]; exact hS
  have hl : lv_has ls 2 [(0, .ref h0), (1, .int a1)] := hl
  refine lv_iload_n hx hb dX11_count_0 rfl (lv_at hl 1 rfl) ?_
  refine lv_if_lt (tgt := 10) hx hb dX11_count_1 (by decide) (fun h1 => ?_) (fun h1 => ?_)
  · refine lv_iconst (v := (-1)) hx hb dX11_count_10 (by decide) ?_
    exact W.iret (v := (-1)) hx hb hr (fun t ht hW => ⟨⟨(-1), (), rfl, by first | exact cnt1 h1 | exact cnt4 h7 | exact cnt5 h1 h7, trivial⟩, hS.F ht⟩) hS.2.2 dX11_count_11
  · refine lv_iload_n hx hb dX11_count_4 rfl (lv_at hl 1 rfl) ?_
    refine lv_bipush (v := 13) hx hb dX11_count_5 (by decide) ?_
    refine lv_icmp_le (tgt := 12) hx hb dX11_count_7 (by decide) (fun h7 => ?_) (fun h7 => ?_)
    · refine lv_iload_n hx hb dX11_count_12 rfl (lv_at hl 1 rfl) ?_
      refine lv_iconst (v := 3) hx hb dX11_count_13 (by decide) ?_
      refine lv_icmp_ne (tgt := 25) hx hb dX11_count_14 (by decide) (fun h14 => ?_) (fun h14 => ?_)
      · refine lv_iload_n hx hb dX11_count_25 rfl (lv_at hl 1 rfl) ?_
        refine lv_iconst (v := 3) hx hb dX11_count_26 (by decide) ?_
        refine lv_icmp_le (tgt := 39) hx hb dX11_count_27 (by decide) (fun h27 => ?_) (fun h27 => ?_)
        · refine lv_aload_n hx hb dX11_count_39 rfl (lv_at hl 0 rfl) ?_
          refine va_get (D := (dC, dI)) (ci := 11) (v := .int 0) (C := RX11) (T := TX11) (N := 9) hx hb hts iX11 hown hK hP 0 rfl rfl 8 (by decide) (hts _ (bP 388 rfl)) (fun _ h9 => h9) (kJ_at hJ 0 rfl) dX11_count_40 ?_
          refine lv_if_ne (tgt := 48) hx hb dX11_count_43 (by decide) (fun h => absurd h (by decide)) (fun _ => ?_)
          refine lv_iconst (v := 0) hx hb dX11_count_46 (by decide) ?_
          exact W.iret (v := 0) hx hb hr (fun t ht hW => ⟨⟨0, (), rfl, by first | exact cnt1 h1 | exact cnt4 h7 | exact cnt5 h1 h7, trivial⟩, hS.F ht⟩) hS.2.2 dX11_count_47
        · refine lv_aload_n hx hb dX11_count_30 rfl (lv_at hl 0 rfl) ?_
          refine va_get (D := (dC, dI)) (ci := 11) (v := .ref qm) (C := RX11) (T := TX11) (N := 9) hx hb hts iX11 hown hK hP 0 rfl rfl 7 (by decide) (hts _ (bP 387 rfl)) (fun _ h9 => h9) (kJ_at hJ 1 rfl) dX11_count_31 ?_
          refine lv_iload_n hx hb dX11_count_34 rfl (lv_at hl 1 rfl) ?_
          have hPc := hP.sub (ws' := [(qm, .inr (3, fm))]) [2] rfl
          have hDc := hD.sub (ws' := [(qm, .inr (3, fm))]) [2] (by decide) rfl
          have hKc := hK.sub (tys' := []) [] rfl
          have hFc := va_free (wc := [(qm, .inr (3, fm))]) hD hS hA [2] rfl
          refine va_calli (va_runV (As := [.int a1]) (rest := []) ⟨hx, hb, hml, hown, hts⟩ (c_Machine_tally l dC dI qm H.size fm a1) (cwV 1 hts (gV (y := yX3_tally) _ 418 419 420 384 395 rfl rfl rfl rfl rfl) rfl rfl rfl (by decide +kernel) ⟨Nat.le_of_ble_eq_true rfl, Nat.le_of_ble_eq_true rfl⟩) ⟨fun a U g mk q => by obtain ⟨q0, q1, qJ, qP, qK, qD⟩ := q; exact ⟨q0, q1, qJ, qP, va_K.moved (u := U) (U := U.calling g mk a) (Vm.Alike.refl U.vm) qK, qD⟩, va_recv hKc hPc (ci := 3) (q0 := 0) rfl rfl, fun U hU hW => ⟨rfl, by rw [hU], hM, by rw [hU]; exact hPc, va_K.moved hW.alike hKc, hDc.weaken (fun _ _ _ _ => trivial)⟩⟩ rfl rfl hl.1 rfl (lv_room (Nat.le_of_ble_eq_true rfl)) dX11_count_35 ⟨Nat.le_of_ble_eq_true rfl, Nat.le_of_ble_eq_true rfl⟩) hS (fun q _ h => hFc q h) hFc (fun r u t H1 locs ht hvm hw hB hz1 hk1 hS => ?_)
          subst hw
          exact W.iret (v := 0) hx hb hr (fun t ht hW => ⟨⟨0, (), rfl, by first | exact cnt1 h1 | exact cnt4 h7 | exact cnt5 h1 h7, trivial⟩, hS.F ht⟩) hS.2.2 dX11_count_38
      · refine lv_aload_n hx hb dX11_count_17 rfl (lv_at hl 0 rfl) ?_
        refine va_get (D := (dC, dI)) (ci := 11) (v := .ref qt) (C := RX11) (T := TX11) (N := 9) hx hb hts iX11 hown hK hP 0 rfl rfl 0 (by decide) (hts _ (bP 345 rfl)) (fun _ h9 => h9) (kJ_at hJ 2 rfl) dX11_count_18 ?_
        refine va_get (D := (dC, dI)) (ci := 7) (v := .int 0) (C := RX7) (T := TX7) (N := 19) hx hb hts iX7 hown hK hP 1 rfl rfl 1 (by decide) (hts _ (bP 421 rfl)) (fun _ h9 => h9) (kJ_at hT 0 rfl) dX11_count_21 ?_
        exact W.iret (v := 0) hx hb hr (fun t ht hW => ⟨⟨0, (), rfl, by first | exact cnt1 h1 | exact cnt4 h7 | exact cnt5 h1 h7, trivial⟩, hS.F ht⟩) hS.2.2 dX11_count_24
    · refine lv_iconst (v := (-1)) hx hb dX11_count_10 (by decide) ?_
      exact W.iret (v := (-1)) hx hb hr (fun t ht hW => ⟨⟨(-1), (), rfl, by first | exact cnt1 h1 | exact cnt4 h7 | exact cnt5 h1 h7, trivial⟩, hS.F ht⟩) hS.2.2 dX11_count_11
set_option maxHeartbeats 4000000 in
set_option maxRecDepth 100000 in
/-- c_MeetingHouse_back -/
theorem c_MeetingHouse_back (l : Launch) (dC : Nat → ClassId) (dI : Nat → Nat → Nat) (h0 sz : Nat) (fx ft : List Value) (qt : Nat) (a1 : Int32) : Met l yX11_back (.code yX11_back cX11_back 2 (some .int) :: wP) ({ frames := 0, cells := 0, slots := 0, locals := 0 }) (va_Pc [.ref h0, .int a1] (fun U => U.heap.size = sz ∧ kJ 9 [(0, .ref qt)] fx ∧ kJ 19 [(1, .int 0)] ft ∧ va_P (dC, dI) vwCl [(h0, .inr (11, fx)), (qt, .inr (7, ft))] U.heap ∧ va_K (dC, dI) vwCl [] U ∧ va_D (fun _ => True) [(h0, .inr (11, fx)), (qt, .inr (7, ft))])) (va_Qi (fun r (_ : Unit) => r = bk a1) (fun (_ : Unit) (_ : State) => True) (va_A [(h0, .inr (11, fx)), (qt, .inr (7, ft))] sz)) 0 0 (va_A [(h0, .inr (11, fx)), (qt, .inr (7, ft))] sz) := by
  refine Met.ofW (cc := cX11_back) (maxL := 2) (ret := (some .int)) (by decide) rfl ?_
  intro p e s m args below meth c s₁ B hml hv
  obtain ⟨rfl, hsz, hJ, hT, hP, hK, hD0⟩ := hv
  have hx := B.exec
  have hb := B.bytes
  have hr := B.returns
  have hts := atoms_spec (ws := .code yX11_back cX11_back 2 (some .int) :: wP) B.pre
  have hown : s.vm.findClass RX11 = some m.cls := findClass_of_methodNamed B.named
  subst hsz
  have hD := hD0.self (sz := s.heap.size)
  generalize hAe : va_A [(h0, .inr (11, fx)), (qt, .inr (7, ft))] s.heap.size = A at hD ⊢
  have hA : ∀ q : Nat, s.heap.size ≤ q → A q := fun q h => by rw [← hAe]; exact Or.inr h
  have hS : va_S A s.heap s.heap [] := va_S.rf
  have hl := lv_entry ([.ref h0, .int a1]) (n := 2) (Nat.le_of_ble_eq_true rfl)
  rw [lg_entry_eq]
  generalize (lg_sl ([.ref h0, .int a1]) ++ List.replicate (2 - (lg_sl ([.ref h0, .int a1])).length) Slot.unset).toArray = ls at hl ⊢
  obtain ⟨H, hHe⟩ : ∃ H, H = s.heap := ⟨_, rfl⟩
  rw [← hHe] at hP ⊢
  have hS : va_S A s.heap H [] := by rw [hHe]; exact hS
  have hl : lv_has ls 2 [(0, .ref h0), (1, .int a1)] := hl
  refine lv_iload_n hx hb dX11_back_0 rfl (lv_at hl 1 rfl) ?_
  refine lv_if_lt (tgt := 15) hx hb dX11_back_1 (by decide) (fun h1 => ?_) (fun h1 => ?_)
  · refine lv_iconst (v := (-1)) hx hb dX11_back_15 (by decide) ?_
    exact W.iret (v := (-1)) hx hb hr (fun t ht hW => ⟨⟨(-1), (), rfl, by first | exact bk1 h1 | exact bk2 h1 h12 ez1 | exact bk3 h12, trivial⟩, hS.F ht⟩) hS.2.2 dX11_back_16
  · refine lv_iload_n hx hb dX11_back_4 rfl (lv_at hl 1 rfl) ?_
    refine lv_aload_n hx hb dX11_back_5 rfl (lv_at hl 0 rfl) ?_
    refine va_get (D := (dC, dI)) (ci := 11) (v := .ref qt) (C := RX11) (T := TX11) (N := 9) hx hb hts iX11 hown hK hP 0 rfl rfl 0 (by decide) (hts _ (bP 345 rfl)) (fun _ h9 => h9) (kJ_at hJ 0 rfl) dX11_back_6 ?_
    refine va_get (D := (dC, dI)) (ci := 7) (v := .int 0) (C := RX7) (T := TX7) (N := 19) hx hb hts iX7 hown hK hP 1 rfl rfl 1 (by decide) (hts _ (bP 421 rfl)) (fun _ h9 => h9) (kJ_at hT 0 rfl) dX11_back_9 ?_
    refine lv_icmp_le (tgt := 17) hx hb dX11_back_12 (by decide) (fun h12 => ?_) (fun h12 => ?_)
    · refine lv_aload_n hx hb dX11_back_17 rfl (lv_at hl 0 rfl) ?_
      refine va_get (D := (dC, dI)) (ci := 11) (v := .ref qt) (C := RX11) (T := TX11) (N := 9) hx hb hts iX11 hown hK hP 0 rfl rfl 0 (by decide) (hts _ (bP 345 rfl)) (fun _ h9 => h9) (kJ_at hJ 0 rfl) dX11_back_18 ?_
      refine lv_dup hx hb dX11_back_21 rfl ?_
      refine va_get (D := (dC, dI)) (ci := 7) (v := .int 0) (C := RX7) (T := TX7) (N := 19) hx hb hts iX7 hown hK hP 1 rfl rfl 1 (by decide) (hts _ (bP 421 rfl)) (fun _ h9 => h9) (kJ_at hT 0 rfl) dX11_back_22 ?_
      refine lv_iload_n hx hb dX11_back_25 rfl (lv_at hl 1 rfl) ?_
      refine lv_isub hx hb dX11_back_26 ?_
      refine lv_topi (fun z1 ez1 => ?_)
      refine kq_put [(1, .int z1)] hts iX7 tyX7 tyX7_ok nmX7 hx hb hown hK hP hD hS 1 rfl rfl hT 1 (by decide) (by decide) (hts _ (bP 421 rfl)) rfl (ty := .int) (by decide +kernel) (v := .int z1) rfl rfl dX11_back_27 (fun f h => kJ_put h _ _ (by decide)) (fun H locs ft hT hP hD hS => ?_)
      have hP : va_P (dC, dI) vwCl [(h0, .inr (11, fx)), (qt, .inr (7, ft))] H := hP
      have hD : va_D A [(h0, .inr (11, fx)), (qt, .inr (7, ft))] := hD
      refine lv_aload_n hx hb dX11_back_30 rfl (lv_at hl 0 rfl) ?_
      refine va_get (D := (dC, dI)) (ci := 11) (v := .ref qt) (C := RX11) (T := TX11) (N := 9) hx hb hts iX11 hown hK hP 0 rfl rfl 0 (by decide) (hts _ (bP 345 rfl)) (fun _ h9 => h9) (kJ_at hJ 0 rfl) dX11_back_31 ?_
      refine va_get (D := (dC, dI)) (ci := 7) (v := .int z1) (C := RX7) (T := TX7) (N := 19) hx hb hts iX7 hown hK hP 1 rfl rfl 1 (by decide) (hts _ (bP 421 rfl)) (fun _ h9 => h9) (kJ_at hT 0 rfl) dX11_back_34 ?_
      exact W.iret (v := z1) hx hb hr (fun t ht hW => ⟨⟨z1, (), rfl, by first | exact bk1 h1 | exact bk2 h1 h12 ez1 | exact bk3 h12, trivial⟩, hS.F ht⟩) hS.2.2 dX11_back_37
    · refine lv_iconst (v := (-1)) hx hb dX11_back_15 (by decide) ?_
      exact W.iret (v := (-1)) hx hb hr (fun t ht hW => ⟨⟨(-1), (), rfl, by first | exact bk1 h1 | exact bk2 h1 h12 ez1 | exact bk3 h12, trivial⟩, hS.F ht⟩) hS.2.2 dX11_back_16
set_option maxHeartbeats 4000000 in
set_option maxRecDepth 100000 in
/-- c_Text_append -/
theorem c_Text_append (l : Launch) (dC : Nat → ClassId) (dI : Nat → Nat → Nat) (h0 sz : Nat) (ft : List Value) (qa : Nat) (ca : ClassId) (f : Nat → Int32) (n : Nat) (a1 : Int32) : Met l yX7_append (.code yX7_append cX7_append 3 none :: wP) ({ frames := 0, cells := 0, slots := 0, locals := 0 }) (va_Pc [.ref h0, .int a1] (fun U => U.heap.size = sz ∧ kJ 19 [(0, .ref qa), (1, .int (nI n))] ft ∧ n + 4 ≤ 6000 ∧ va_P (dC, dI) vwCl [(h0, .inr (7, ft)), (qa, .inl (ca, 6000, .inl f))] U.heap ∧ va_K (dC, dI) vwCl [(ca, .byte)] U ∧ va_D (fun _ => True) [(h0, .inr (7, ft)), (qa, .inl (ca, 6000, .inl f))])) (va_Qv (fun u : List Value × (Nat → Int32) => kJ 19 [(1, .int (nI (n + 4))), (0, .ref qa)] u.1) (fun (u : List Value × (Nat → Int32)) (t : State) => va_P (dC, dI) vwCl [(h0, .inr (7, u.1)), (qa, .inl (ca, 6000, .inl u.2))] t.heap ∧ va_K (dC, dI) vwCl [(ca, .byte)] t ∧ va_D (va_A [(h0, .inr (7, ft)), (qa, .inl (ca, 6000, .inl f))] sz) [(h0, .inr (7, u.1)), (qa, .inl (ca, 6000, .inl u.2))]) (va_A [(h0, .inr (7, ft)), (qa, .inl (ca, 6000, .inl f))] sz)) 0 0 (va_A [(h0, .inr (7, ft)), (qa, .inl (ca, 6000, .inl f))] sz) := by
  refine Met.ofW (cc := cX7_append) (maxL := 3) (ret := none) (by decide) rfl ?_
  intro p e s m args below meth c s₁ B hml hv
  obtain ⟨rfl, hsz, hT, hn, hP, hK, hD0⟩ := hv
  have hx := B.exec
  have hb := B.bytes
  have hr := B.returns
  have hts := atoms_spec (ws := .code yX7_append cX7_append 3 none :: wP) B.pre
  have hown : s.vm.findClass RX7 = some m.cls := findClass_of_methodNamed B.named
  subst hsz
  have hD := hD0.self (sz := s.heap.size)
  generalize hAe : va_A [(h0, .inr (7, ft)), (qa, .inl (ca, 6000, .inl f))] s.heap.size = A at hD ⊢
  have hA : ∀ q : Nat, s.heap.size ≤ q → A q := fun q h => by rw [← hAe]; exact Or.inr h
  have hS : va_S A s.heap s.heap [] := va_S.rf
  have hl := lv_entry ([.ref h0, .int a1]) (n := 3) (Nat.le_of_ble_eq_true rfl)
  rw [lg_entry_eq]
  generalize (lg_sl ([.ref h0, .int a1]) ++ List.replicate (3 - (lg_sl ([.ref h0, .int a1])).length) Slot.unset).toArray = ls at hl ⊢
  obtain ⟨H, hHe⟩ : ∃ H, H = s.heap := ⟨_, rfl⟩
  rw [← hHe] at hP ⊢
  have hS : va_S A s.heap H [] := by rw [hHe]; exact hS
  have hl : lv_has ls 3 [(0, .ref h0), (1, .int a1)] := hl
  refine lv_bipush (v := 24) hx hb dX7_append_0 (by decide) ?_
  refine lv_istore_n (lv' := [(2, .int 24), (0, .ref h0), (1, .int a1)]) hx hb dX7_append_2 rfl hl (by decide) rfl (fun ls hl => ?_)
  refine lv_iload_n hx hb dX7_append_3 rfl (lv_at hl 0 rfl) ?_
  refine lv_if_lt (tgt := 46) hx hb dX7_append_4 (by decide) (fun h => absurd h (by decide)) (fun _ => ?_)
  refine lv_aload_n hx hb dX7_append_7 rfl (lv_at hl 1 rfl) ?_
  refine va_get (D := (dC, dI)) (ci := 7) (v := .int (nI (n))) (C := RX7) (T := TX7) (N := 19) hx hb hts iX7 hown hK hP 0 rfl rfl 1 (by decide) (hts _ (bP 424 rfl)) (fun _ h9 => h9) (kJ_at hT 1 rfl) dX7_append_8 ?_
  refine lv_sipush (v := 6000) hx hb dX7_append_11 (by decide) ?_
  refine lv_icmp_ge (tgt := 40) hx hb dX7_append_14 (by decide) (fun h => absurd h (nI_ge (b := 6000) (by omega) (by decide))) (fun _ => ?_)
  refine lv_aload_n hx hb dX7_append_17 rfl (lv_at hl 1 rfl) ?_
  refine va_get (D := (dC, dI)) (ci := 7) (v := .ref qa) (C := RX7) (T := TX7) (N := 19) hx hb hts iX7 hown hK hP 0 rfl rfl 0 (by decide) (hts _ (bP 294 rfl)) (fun _ h9 => h9) (kJ_at hT 0 rfl) dX7_append_18 ?_
  refine lv_aload_n hx hb dX7_append_21 rfl (lv_at hl 1 rfl) ?_
  refine va_get (D := (dC, dI)) (ci := 7) (v := .int (nI (n))) (C := RX7) (T := TX7) (N := 19) hx hb hts iX7 hown hK hP 0 rfl rfl 1 (by decide) (hts _ (bP 424 rfl)) (fun _ h9 => h9) (kJ_at hT 1 rfl) dX7_append_22 ?_
  refine lv_iload_n hx hb dX7_append_25 rfl (lv_at hl 2 rfl) ?_
  refine lv_iload_n hx hb dX7_append_26 rfl (lv_at hl 0 rfl) ?_
  refine lv_iushr hx hb dX7_append_27 rfl ?_
  refine lv_topi (fun z1 ez1 => ?_)
  refine lv_i2b hx hb dX7_append_28 rfl ?_
  refine lv_topi (fun z2 ez2 => ?_)
  refine kq_bast hx hb hK hP hD hS 1 0 rfl rfl (vp_in_nI (by omega) (by decide)) dX7_append_29 (fun H locs f ef hP hD hS => ?_)
  have hP : va_P (dC, dI) vwCl [(h0, .inr (7, ft)), (qa, .inl (ca, 6000, .inl f))] H := hP
  have hD : va_D A [(h0, .inr (7, ft)), (qa, .inl (ca, 6000, .inl f))] := hD
  clear ez1 ez2 ef
  refine lv_aload_n hx hb dX7_append_30 rfl (lv_at hl 1 rfl) ?_
  refine lv_dup hx hb dX7_append_31 rfl ?_
  refine va_get (D := (dC, dI)) (ci := 7) (v := .int (nI (n))) (C := RX7) (T := TX7) (N := 19) hx hb hts iX7 hown hK hP 0 rfl rfl 1 (by decide) (hts _ (bP 424 rfl)) (fun _ h9 => h9) (kJ_at hT 1 rfl) dX7_append_32 ?_
  refine lv_iconst (v := 1) hx hb dX7_append_35 (by decide) ?_
  refine lv_iadd hx hb dX7_append_36 ?_
  refine k_i (v := nI (n + 1)) (nI_1 _) ?_
  refine kq_put [(1, .int (nI (n + 1))), (0, .ref qa)] hts iX7 tyX7 tyX7_ok nmX7 hx hb hown hK hP hD hS 0 rfl rfl hT 1 (by decide) (by decide) (hts _ (bP 424 rfl)) rfl (ty := .int) (by decide +kernel) (v := .int (nI (n + 1))) rfl rfl dX7_append_37 (fun f h => kJ_put h _ _ (by decide)) (fun H locs ft hT hP hD hS => ?_)
  have hP : va_P (dC, dI) vwCl [(h0, .inr (7, ft)), (qa, .inl (ca, 6000, .inl f))] H := hP
  have hD : va_D A [(h0, .inr (7, ft)), (qa, .inl (ca, 6000, .inl f))] := hD
  refine lv_iinc (v := 16) (lv' := [(2, .int 16), (0, .ref h0), (1, .int a1)]) hx hb dX7_append_40 hl (k := 0) rfl (by decide) (by decide) rfl (fun ls hl => ?_)
  refine lv_goto (tgt := 3) hx hb dX7_append_43 (by decide) ?_
  refine lv_iload_n hx hb dX7_append_3 rfl (lv_at hl 0 rfl) ?_
  refine lv_if_lt (tgt := 46) hx hb dX7_append_4 (by decide) (fun h => absurd h (by decide)) (fun _ => ?_)
  refine lv_aload_n hx hb dX7_append_7 rfl (lv_at hl 1 rfl) ?_
  refine va_get (D := (dC, dI)) (ci := 7) (v := .int (nI (n + 1))) (C := RX7) (T := TX7) (N := 19) hx hb hts iX7 hown hK hP 0 rfl rfl 1 (by decide) (hts _ (bP 424 rfl)) (fun _ h9 => h9) (kJ_at hT 0 rfl) dX7_append_8 ?_
  refine lv_sipush (v := 6000) hx hb dX7_append_11 (by decide) ?_
  refine lv_icmp_ge (tgt := 40) hx hb dX7_append_14 (by decide) (fun h => absurd h (nI_ge (b := 6000) (by omega) (by decide))) (fun _ => ?_)
  refine lv_aload_n hx hb dX7_append_17 rfl (lv_at hl 1 rfl) ?_
  refine va_get (D := (dC, dI)) (ci := 7) (v := .ref qa) (C := RX7) (T := TX7) (N := 19) hx hb hts iX7 hown hK hP 0 rfl rfl 0 (by decide) (hts _ (bP 294 rfl)) (fun _ h9 => h9) (kJ_at hT 1 rfl) dX7_append_18 ?_
  refine lv_aload_n hx hb dX7_append_21 rfl (lv_at hl 1 rfl) ?_
  refine va_get (D := (dC, dI)) (ci := 7) (v := .int (nI (n + 1))) (C := RX7) (T := TX7) (N := 19) hx hb hts iX7 hown hK hP 0 rfl rfl 1 (by decide) (hts _ (bP 424 rfl)) (fun _ h9 => h9) (kJ_at hT 0 rfl) dX7_append_22 ?_
  refine lv_iload_n hx hb dX7_append_25 rfl (lv_at hl 2 rfl) ?_
  refine lv_iload_n hx hb dX7_append_26 rfl (lv_at hl 0 rfl) ?_
  refine lv_iushr hx hb dX7_append_27 rfl ?_
  refine lv_topi (fun z1 ez1 => ?_)
  refine lv_i2b hx hb dX7_append_28 rfl ?_
  refine lv_topi (fun z2 ez2 => ?_)
  refine kq_bast hx hb hK hP hD hS 1 0 rfl rfl (vp_in_nI (by omega) (by decide)) dX7_append_29 (fun H locs f ef hP hD hS => ?_)
  have hP : va_P (dC, dI) vwCl [(h0, .inr (7, ft)), (qa, .inl (ca, 6000, .inl f))] H := hP
  have hD : va_D A [(h0, .inr (7, ft)), (qa, .inl (ca, 6000, .inl f))] := hD
  clear ez1 ez2 ef
  refine lv_aload_n hx hb dX7_append_30 rfl (lv_at hl 1 rfl) ?_
  refine lv_dup hx hb dX7_append_31 rfl ?_
  refine va_get (D := (dC, dI)) (ci := 7) (v := .int (nI (n + 1))) (C := RX7) (T := TX7) (N := 19) hx hb hts iX7 hown hK hP 0 rfl rfl 1 (by decide) (hts _ (bP 424 rfl)) (fun _ h9 => h9) (kJ_at hT 0 rfl) dX7_append_32 ?_
  refine lv_iconst (v := 1) hx hb dX7_append_35 (by decide) ?_
  refine lv_iadd hx hb dX7_append_36 ?_
  refine k_i (v := nI (n + 2)) (nI_1 _) ?_
  refine kq_put [(1, .int (nI (n + 2))), (0, .ref qa)] hts iX7 tyX7 tyX7_ok nmX7 hx hb hown hK hP hD hS 0 rfl rfl hT 1 (by decide) (by decide) (hts _ (bP 424 rfl)) rfl (ty := .int) (by decide +kernel) (v := .int (nI (n + 2))) rfl rfl dX7_append_37 (fun f h => kJ_put h _ _ (by decide)) (fun H locs ft hT hP hD hS => ?_)
  have hP : va_P (dC, dI) vwCl [(h0, .inr (7, ft)), (qa, .inl (ca, 6000, .inl f))] H := hP
  have hD : va_D A [(h0, .inr (7, ft)), (qa, .inl (ca, 6000, .inl f))] := hD
  refine lv_iinc (v := 8) (lv' := [(2, .int 8), (0, .ref h0), (1, .int a1)]) hx hb dX7_append_40 hl (k := 0) rfl (by decide) (by decide) rfl (fun ls hl => ?_)
  refine lv_goto (tgt := 3) hx hb dX7_append_43 (by decide) ?_
  refine lv_iload_n hx hb dX7_append_3 rfl (lv_at hl 0 rfl) ?_
  refine lv_if_lt (tgt := 46) hx hb dX7_append_4 (by decide) (fun h => absurd h (by decide)) (fun _ => ?_)
  refine lv_aload_n hx hb dX7_append_7 rfl (lv_at hl 1 rfl) ?_
  refine va_get (D := (dC, dI)) (ci := 7) (v := .int (nI (n + 2))) (C := RX7) (T := TX7) (N := 19) hx hb hts iX7 hown hK hP 0 rfl rfl 1 (by decide) (hts _ (bP 424 rfl)) (fun _ h9 => h9) (kJ_at hT 0 rfl) dX7_append_8 ?_
  refine lv_sipush (v := 6000) hx hb dX7_append_11 (by decide) ?_
  refine lv_icmp_ge (tgt := 40) hx hb dX7_append_14 (by decide) (fun h => absurd h (nI_ge (b := 6000) (by omega) (by decide))) (fun _ => ?_)
  refine lv_aload_n hx hb dX7_append_17 rfl (lv_at hl 1 rfl) ?_
  refine va_get (D := (dC, dI)) (ci := 7) (v := .ref qa) (C := RX7) (T := TX7) (N := 19) hx hb hts iX7 hown hK hP 0 rfl rfl 0 (by decide) (hts _ (bP 294 rfl)) (fun _ h9 => h9) (kJ_at hT 1 rfl) dX7_append_18 ?_
  refine lv_aload_n hx hb dX7_append_21 rfl (lv_at hl 1 rfl) ?_
  refine va_get (D := (dC, dI)) (ci := 7) (v := .int (nI (n + 2))) (C := RX7) (T := TX7) (N := 19) hx hb hts iX7 hown hK hP 0 rfl rfl 1 (by decide) (hts _ (bP 424 rfl)) (fun _ h9 => h9) (kJ_at hT 0 rfl) dX7_append_22 ?_
  refine lv_iload_n hx hb dX7_append_25 rfl (lv_at hl 2 rfl) ?_
  refine lv_iload_n hx hb dX7_append_26 rfl (lv_at hl 0 rfl) ?_
  refine lv_iushr hx hb dX7_append_27 rfl ?_
  refine lv_topi (fun z1 ez1 => ?_)
  refine lv_i2b hx hb dX7_append_28 rfl ?_
  refine lv_topi (fun z2 ez2 => ?_)
  refine kq_bast hx hb hK hP hD hS 1 0 rfl rfl (vp_in_nI (by omega) (by decide)) dX7_append_29 (fun H locs f ef hP hD hS => ?_)
  have hP : va_P (dC, dI) vwCl [(h0, .inr (7, ft)), (qa, .inl (ca, 6000, .inl f))] H := hP
  have hD : va_D A [(h0, .inr (7, ft)), (qa, .inl (ca, 6000, .inl f))] := hD
  clear ez1 ez2 ef
  refine lv_aload_n hx hb dX7_append_30 rfl (lv_at hl 1 rfl) ?_
  refine lv_dup hx hb dX7_append_31 rfl ?_
  refine va_get (D := (dC, dI)) (ci := 7) (v := .int (nI (n + 2))) (C := RX7) (T := TX7) (N := 19) hx hb hts iX7 hown hK hP 0 rfl rfl 1 (by decide) (hts _ (bP 424 rfl)) (fun _ h9 => h9) (kJ_at hT 0 rfl) dX7_append_32 ?_
  refine lv_iconst (v := 1) hx hb dX7_append_35 (by decide) ?_
  refine lv_iadd hx hb dX7_append_36 ?_
  refine k_i (v := nI (n + 3)) (nI_1 _) ?_
  refine kq_put [(1, .int (nI (n + 3))), (0, .ref qa)] hts iX7 tyX7 tyX7_ok nmX7 hx hb hown hK hP hD hS 0 rfl rfl hT 1 (by decide) (by decide) (hts _ (bP 424 rfl)) rfl (ty := .int) (by decide +kernel) (v := .int (nI (n + 3))) rfl rfl dX7_append_37 (fun f h => kJ_put h _ _ (by decide)) (fun H locs ft hT hP hD hS => ?_)
  have hP : va_P (dC, dI) vwCl [(h0, .inr (7, ft)), (qa, .inl (ca, 6000, .inl f))] H := hP
  have hD : va_D A [(h0, .inr (7, ft)), (qa, .inl (ca, 6000, .inl f))] := hD
  refine lv_iinc (v := 0) (lv' := [(2, .int 0), (0, .ref h0), (1, .int a1)]) hx hb dX7_append_40 hl (k := 0) rfl (by decide) (by decide) rfl (fun ls hl => ?_)
  refine lv_goto (tgt := 3) hx hb dX7_append_43 (by decide) ?_
  refine lv_iload_n hx hb dX7_append_3 rfl (lv_at hl 0 rfl) ?_
  refine lv_if_lt (tgt := 46) hx hb dX7_append_4 (by decide) (fun h => absurd h (by decide)) (fun _ => ?_)
  refine lv_aload_n hx hb dX7_append_7 rfl (lv_at hl 1 rfl) ?_
  refine va_get (D := (dC, dI)) (ci := 7) (v := .int (nI (n + 3))) (C := RX7) (T := TX7) (N := 19) hx hb hts iX7 hown hK hP 0 rfl rfl 1 (by decide) (hts _ (bP 424 rfl)) (fun _ h9 => h9) (kJ_at hT 0 rfl) dX7_append_8 ?_
  refine lv_sipush (v := 6000) hx hb dX7_append_11 (by decide) ?_
  refine lv_icmp_ge (tgt := 40) hx hb dX7_append_14 (by decide) (fun h => absurd h (nI_ge (b := 6000) (by omega) (by decide))) (fun _ => ?_)
  refine lv_aload_n hx hb dX7_append_17 rfl (lv_at hl 1 rfl) ?_
  refine va_get (D := (dC, dI)) (ci := 7) (v := .ref qa) (C := RX7) (T := TX7) (N := 19) hx hb hts iX7 hown hK hP 0 rfl rfl 0 (by decide) (hts _ (bP 294 rfl)) (fun _ h9 => h9) (kJ_at hT 1 rfl) dX7_append_18 ?_
  refine lv_aload_n hx hb dX7_append_21 rfl (lv_at hl 1 rfl) ?_
  refine va_get (D := (dC, dI)) (ci := 7) (v := .int (nI (n + 3))) (C := RX7) (T := TX7) (N := 19) hx hb hts iX7 hown hK hP 0 rfl rfl 1 (by decide) (hts _ (bP 424 rfl)) (fun _ h9 => h9) (kJ_at hT 0 rfl) dX7_append_22 ?_
  refine lv_iload_n hx hb dX7_append_25 rfl (lv_at hl 2 rfl) ?_
  refine lv_iload_n hx hb dX7_append_26 rfl (lv_at hl 0 rfl) ?_
  refine lv_iushr hx hb dX7_append_27 rfl ?_
  refine lv_topi (fun z1 ez1 => ?_)
  refine lv_i2b hx hb dX7_append_28 rfl ?_
  refine lv_topi (fun z2 ez2 => ?_)
  refine kq_bast hx hb hK hP hD hS 1 0 rfl rfl (vp_in_nI (by omega) (by decide)) dX7_append_29 (fun H locs f ef hP hD hS => ?_)
  have hP : va_P (dC, dI) vwCl [(h0, .inr (7, ft)), (qa, .inl (ca, 6000, .inl f))] H := hP
  have hD : va_D A [(h0, .inr (7, ft)), (qa, .inl (ca, 6000, .inl f))] := hD
  clear ez1 ez2 ef
  refine lv_aload_n hx hb dX7_append_30 rfl (lv_at hl 1 rfl) ?_
  refine lv_dup hx hb dX7_append_31 rfl ?_
  refine va_get (D := (dC, dI)) (ci := 7) (v := .int (nI (n + 3))) (C := RX7) (T := TX7) (N := 19) hx hb hts iX7 hown hK hP 0 rfl rfl 1 (by decide) (hts _ (bP 424 rfl)) (fun _ h9 => h9) (kJ_at hT 0 rfl) dX7_append_32 ?_
  refine lv_iconst (v := 1) hx hb dX7_append_35 (by decide) ?_
  refine lv_iadd hx hb dX7_append_36 ?_
  refine k_i (v := nI (n + 4)) (nI_1 _) ?_
  refine kq_put [(1, .int (nI (n + 4))), (0, .ref qa)] hts iX7 tyX7 tyX7_ok nmX7 hx hb hown hK hP hD hS 0 rfl rfl hT 1 (by decide) (by decide) (hts _ (bP 424 rfl)) rfl (ty := .int) (by decide +kernel) (v := .int (nI (n + 4))) rfl rfl dX7_append_37 (fun f h => kJ_put h _ _ (by decide)) (fun H locs ft hT hP hD hS => ?_)
  have hP : va_P (dC, dI) vwCl [(h0, .inr (7, ft)), (qa, .inl (ca, 6000, .inl f))] H := hP
  have hD : va_D A [(h0, .inr (7, ft)), (qa, .inl (ca, 6000, .inl f))] := hD
  refine lv_iinc (v := (-8)) (lv' := [(2, .int (-8)), (0, .ref h0), (1, .int a1)]) hx hb dX7_append_40 hl (k := 0) rfl (by decide) (by decide) rfl (fun ls hl => ?_)
  refine lv_goto (tgt := 3) hx hb dX7_append_43 (by decide) ?_
  refine lv_iload_n hx hb dX7_append_3 rfl (lv_at hl 0 rfl) ?_
  refine lv_if_lt (tgt := 46) hx hb dX7_append_4 (by decide) (fun _ => ?_) (fun h => absurd (by decide) h)
  exact W.vret hx hb hr (fun t ht hW => ⟨⟨(ft, f), rfl, hT, by rw [ht]; exact hP, va_K.moved hW.alike hK, hD⟩, hS.F ht⟩) hS.2.2 dX7_append_46
set_option maxHeartbeats 4000000 in
set_option maxRecDepth 100000 in
/-- c_MeetingHouse_feed -/
theorem c_MeetingHouse_feed (l : Launch) (dC : Nat → ClassId) (dI : Nat → Nat → Nat) (h0 sz : Nat) (fx ft : List Value) (qt qa : Nat) (ca : ClassId) (f : Nat → Int32) (a1 a2 a3 a4 a5 : Int32) : Met l yX11_feed (.code yX11_feed cX11_feed 6 (some .int) :: wP) ({ frames := 1, cells := 0, slots := 0, locals := 26 }) (va_Pc [.ref h0, .int a1, .int a2, .int a3, .int a4, .int a5] (fun U => U.heap.size = sz ∧ kJ 9 [(0, .ref qt)] fx ∧ kJ 19 [(0, .ref qa), (1, .int 0)] ft ∧ va_P (dC, dI) vwCl [(h0, .inr (11, fx)), (qt, .inr (7, ft)), (qa, .inl (ca, 6000, .inl f))] U.heap ∧ va_K (dC, dI) vwCl [(ca, .byte)] U ∧ va_D (fun _ => True) [(h0, .inr (11, fx)), (qt, .inr (7, ft)), (qa, .inl (ca, 6000, .inl f))])) (va_Qi (fun r (_ : Unit) => r = 20) (fun (_ : Unit) (_ : State) => True) (va_A [(h0, .inr (11, fx)), (qt, .inr (7, ft)), (qa, .inl (ca, 6000, .inl f))] sz)) 0 0 (va_A [(h0, .inr (11, fx)), (qt, .inr (7, ft)), (qa, .inl (ca, 6000, .inl f))] sz) := by
  refine Met.ofW (cc := cX11_feed) (maxL := 6) (ret := (some .int)) (by decide) rfl ?_
  intro p e s m args below meth c s₁ B hml hv
  obtain ⟨rfl, hsz, hJ, hT, hP, hK, hD0⟩ := hv
  have hx := B.exec
  have hb := B.bytes
  have hr := B.returns
  have hts := atoms_spec (ws := .code yX11_feed cX11_feed 6 (some .int) :: wP) B.pre
  have hown : s.vm.findClass RX11 = some m.cls := findClass_of_methodNamed B.named
  subst hsz
  have hD := hD0.self (sz := s.heap.size)
  generalize hAe : va_A [(h0, .inr (11, fx)), (qt, .inr (7, ft)), (qa, .inl (ca, 6000, .inl f))] s.heap.size = A at hD ⊢
  have hA : ∀ q : Nat, s.heap.size ≤ q → A q := fun q h => by rw [← hAe]; exact Or.inr h
  have hS : va_S A s.heap s.heap [] := va_S.rf
  have hl := lv_entry ([.ref h0, .int a1, .int a2, .int a3, .int a4, .int a5]) (n := 6) (Nat.le_of_ble_eq_true rfl)
  rw [lg_entry_eq]
  generalize (lg_sl ([.ref h0, .int a1, .int a2, .int a3, .int a4, .int a5]) ++ List.replicate (6 - (lg_sl ([.ref h0, .int a1, .int a2, .int a3, .int a4, .int a5])).length) Slot.unset).toArray = ls at hl ⊢
  obtain ⟨H, hHe⟩ : ∃ H, H = s.heap := ⟨_, rfl⟩
  rw [← hHe] at hP ⊢
  have hS : va_S A s.heap H [] := by rw [hHe]; exact hS
  have hl : lv_has ls 6 [(0, .ref h0), (1, .int a1), (2, .int a2), (3, .int a3), (4, .int a4), (5, .int a5)] := hl
  refine lv_aload_n hx hb dX11_feed_0 rfl (lv_at hl 0 rfl) ?_
  refine va_get (D := (dC, dI)) (ci := 11) (v := .ref qt) (C := RX11) (T := TX11) (N := 9) hx hb hts iX11 hown hK hP 0 rfl rfl 0 (by decide) (hts _ (bP 345 rfl)) (fun _ h9 => h9) (kJ_at hJ 0 rfl) dX11_feed_1 ?_
  refine va_get (D := (dC, dI)) (ci := 7) (v := .int 0) (C := RX7) (T := TX7) (N := 19) hx hb hts iX7 hown hK hP 1 rfl rfl 1 (by decide) (hts _ (bP 421 rfl)) (fun _ h9 => h9) (kJ_at hT 1 rfl) dX11_feed_4 ?_
  refine lv_bipush (v := 20) hx hb dX11_feed_7 (by decide) ?_
  refine lv_iadd hx hb dX11_feed_9 ?_
  refine k_i (v := 20) (by decide) ?_
  refine lv_sipush (v := 6000) hx hb dX11_feed_10 (by decide) ?_
  refine lv_icmp_le (tgt := 18) hx hb dX11_feed_13 (by decide) (fun _ => ?_) (fun h => absurd h (by decide))
  refine lv_aload_n hx hb dX11_feed_18 rfl (lv_at hl 0 rfl) ?_
  refine va_get (D := (dC, dI)) (ci := 11) (v := .ref qt) (C := RX11) (T := TX11) (N := 9) hx hb hts iX11 hown hK hP 0 rfl rfl 0 (by decide) (hts _ (bP 345 rfl)) (fun _ h9 => h9) (kJ_at hJ 0 rfl) dX11_feed_19 ?_
  refine lv_iload_n hx hb dX11_feed_22 rfl (lv_at hl 1 rfl) ?_
  have hPc := hP.sub (ws' := [(qt, .inr (7, ft)), (qa, .inl (ca, 6000, .inl f))]) [1, 2] rfl
  have hDc := hD.sub (ws' := [(qt, .inr (7, ft)), (qa, .inl (ca, 6000, .inl f))]) [1, 2] (by decide) rfl
  have hKc := hK.sub (tys' := [(ca, .byte)]) [0] rfl
  have hFc := va_free (wc := [(qt, .inr (7, ft)), (qa, .inl (ca, 6000, .inl f))]) hD hS hA [1, 2] rfl
  refine va_callv (va_runV (As := [.int a1]) (rest := []) ⟨hx, hb, hml, hown, hts⟩ (c_Text_append l dC dI qt H.size ft qa ca f 0 a1) (cwV 1 hts (gV (y := yX7_append) _ 426 427 428 343 423 rfl rfl rfl rfl rfl) rfl rfl rfl (by decide +kernel) ⟨Nat.le_of_ble_eq_true rfl, Nat.le_of_ble_eq_true rfl⟩) ⟨fun a U g mk q => by obtain ⟨q0, q1, qJ, qn, qP, qK, qD⟩ := q; exact ⟨q0, q1, qJ, qn, qP, va_K.moved (u := U) (U := U.calling g mk a) (Vm.Alike.refl U.vm) qK, qD⟩, va_recv hKc hPc (ci := 7) (q0 := 0) rfl rfl, fun U hU hW => ⟨rfl, by rw [hU], kJ_sub hT (by simp [nI_0]), by decide, by rw [hU]; exact hPc, va_K.moved hW.alike hKc, hDc.weaken (fun _ _ _ _ => trivial)⟩⟩ rfl rfl hl.1 rfl (lv_room (Nat.le_of_ble_eq_true rfl)) dX11_feed_23 ⟨Nat.le_of_ble_eq_true rfl, Nat.le_of_ble_eq_true rfl⟩) hS (fun q _ h => hFc q h) hFc (fun u t H1 locs ht hvm hw hB hz1 hk1 hS => ?_)
  obtain ⟨ft, f⟩ := u
  have hT : kJ 19 [(1, .int (nI 4)), (0, .ref qa)] ft := hw
  clear hw
  obtain ⟨hP1, hK1, hD1⟩ := hB
  rw [ht] at hP1
  have hK1 := va_K.moved hvm.symm hK1
  obtain ⟨hP, hD⟩ := va_join (wr := [(h0, .inr (11, fx))]) (w1 := [(qt, .inr (7, ft)), (qa, .inl (ca, 6000, .inl f))]) hP hD [1, 2] [0] rfl rfl (by decide) (by decide) hk1 hFc hP1 hD1
  have hK := (hK.sub (tys' := []) [] rfl).app hK1
  clear hPc hDc hKc hFc hP1 hK1 hD1 hk1 hz1
  generalize H1 = H at hP hS ⊢
  have hP : va_P (dC, dI) vwCl [(h0, .inr (11, fx)), (qt, .inr (7, ft)), (qa, .inl (ca, 6000, .inl f))] H := hP
  have hD : va_D A [(h0, .inr (11, fx)), (qt, .inr (7, ft)), (qa, .inl (ca, 6000, .inl f))] := hD
  have hK : va_K (dC, dI) vwCl [(ca, .byte)] s := hK
  refine lv_aload_n hx hb dX11_feed_26 rfl (lv_at hl 0 rfl) ?_
  refine va_get (D := (dC, dI)) (ci := 11) (v := .ref qt) (C := RX11) (T := TX11) (N := 9) hx hb hts iX11 hown hK hP 0 rfl rfl 0 (by decide) (hts _ (bP 345 rfl)) (fun _ h9 => h9) (kJ_at hJ 0 rfl) dX11_feed_27 ?_
  refine lv_iload_n hx hb dX11_feed_30 rfl (lv_at hl 2 rfl) ?_
  have hPc := hP.sub (ws' := [(qt, .inr (7, ft)), (qa, .inl (ca, 6000, .inl f))]) [1, 2] rfl
  have hDc := hD.sub (ws' := [(qt, .inr (7, ft)), (qa, .inl (ca, 6000, .inl f))]) [1, 2] (by decide) rfl
  have hKc := hK.sub (tys' := [(ca, .byte)]) [0] rfl
  have hFc := va_free (wc := [(qt, .inr (7, ft)), (qa, .inl (ca, 6000, .inl f))]) hD hS hA [1, 2] rfl
  refine va_callv (va_runV (As := [.int a2]) (rest := []) ⟨hx, hb, hml, hown, hts⟩ (c_Text_append l dC dI qt H.size ft qa ca f 4 a2) (cwV 1 hts (gV (y := yX7_append) _ 426 427 428 343 423 rfl rfl rfl rfl rfl) rfl rfl rfl (by decide +kernel) ⟨Nat.le_of_ble_eq_true rfl, Nat.le_of_ble_eq_true rfl⟩) ⟨fun a U g mk q => by obtain ⟨q0, q1, qJ, qn, qP, qK, qD⟩ := q; exact ⟨q0, q1, qJ, qn, qP, va_K.moved (u := U) (U := U.calling g mk a) (Vm.Alike.refl U.vm) qK, qD⟩, va_recv hKc hPc (ci := 7) (q0 := 0) rfl rfl, fun U hU hW => ⟨rfl, by rw [hU], kJ_sub hT (by simp [nI_0]), by decide, by rw [hU]; exact hPc, va_K.moved hW.alike hKc, hDc.weaken (fun _ _ _ _ => trivial)⟩⟩ rfl rfl hl.1 rfl (lv_room (Nat.le_of_ble_eq_true rfl)) dX11_feed_31 ⟨Nat.le_of_ble_eq_true rfl, Nat.le_of_ble_eq_true rfl⟩) hS (fun q _ h => hFc q h) hFc (fun u t H1 locs ht hvm hw hB hz1 hk1 hS => ?_)
  obtain ⟨ft, f⟩ := u
  have hT : kJ 19 [(1, .int (nI 8)), (0, .ref qa)] ft := hw
  clear hw
  obtain ⟨hP1, hK1, hD1⟩ := hB
  rw [ht] at hP1
  have hK1 := va_K.moved hvm.symm hK1
  obtain ⟨hP, hD⟩ := va_join (wr := [(h0, .inr (11, fx))]) (w1 := [(qt, .inr (7, ft)), (qa, .inl (ca, 6000, .inl f))]) hP hD [1, 2] [0] rfl rfl (by decide) (by decide) hk1 hFc hP1 hD1
  have hK := (hK.sub (tys' := []) [] rfl).app hK1
  clear hPc hDc hKc hFc hP1 hK1 hD1 hk1 hz1
  generalize H1 = H at hP hS ⊢
  have hP : va_P (dC, dI) vwCl [(h0, .inr (11, fx)), (qt, .inr (7, ft)), (qa, .inl (ca, 6000, .inl f))] H := hP
  have hD : va_D A [(h0, .inr (11, fx)), (qt, .inr (7, ft)), (qa, .inl (ca, 6000, .inl f))] := hD
  have hK : va_K (dC, dI) vwCl [(ca, .byte)] s := hK
  refine lv_aload_n hx hb dX11_feed_34 rfl (lv_at hl 0 rfl) ?_
  refine va_get (D := (dC, dI)) (ci := 11) (v := .ref qt) (C := RX11) (T := TX11) (N := 9) hx hb hts iX11 hown hK hP 0 rfl rfl 0 (by decide) (hts _ (bP 345 rfl)) (fun _ h9 => h9) (kJ_at hJ 0 rfl) dX11_feed_35 ?_
  refine lv_iload_n hx hb dX11_feed_38 rfl (lv_at hl 3 rfl) ?_
  have hPc := hP.sub (ws' := [(qt, .inr (7, ft)), (qa, .inl (ca, 6000, .inl f))]) [1, 2] rfl
  have hDc := hD.sub (ws' := [(qt, .inr (7, ft)), (qa, .inl (ca, 6000, .inl f))]) [1, 2] (by decide) rfl
  have hKc := hK.sub (tys' := [(ca, .byte)]) [0] rfl
  have hFc := va_free (wc := [(qt, .inr (7, ft)), (qa, .inl (ca, 6000, .inl f))]) hD hS hA [1, 2] rfl
  refine va_callv (va_runV (As := [.int a3]) (rest := []) ⟨hx, hb, hml, hown, hts⟩ (c_Text_append l dC dI qt H.size ft qa ca f 8 a3) (cwV 1 hts (gV (y := yX7_append) _ 426 427 428 343 423 rfl rfl rfl rfl rfl) rfl rfl rfl (by decide +kernel) ⟨Nat.le_of_ble_eq_true rfl, Nat.le_of_ble_eq_true rfl⟩) ⟨fun a U g mk q => by obtain ⟨q0, q1, qJ, qn, qP, qK, qD⟩ := q; exact ⟨q0, q1, qJ, qn, qP, va_K.moved (u := U) (U := U.calling g mk a) (Vm.Alike.refl U.vm) qK, qD⟩, va_recv hKc hPc (ci := 7) (q0 := 0) rfl rfl, fun U hU hW => ⟨rfl, by rw [hU], kJ_sub hT (by simp [nI_0]), by decide, by rw [hU]; exact hPc, va_K.moved hW.alike hKc, hDc.weaken (fun _ _ _ _ => trivial)⟩⟩ rfl rfl hl.1 rfl (lv_room (Nat.le_of_ble_eq_true rfl)) dX11_feed_39 ⟨Nat.le_of_ble_eq_true rfl, Nat.le_of_ble_eq_true rfl⟩) hS (fun q _ h => hFc q h) hFc (fun u t H1 locs ht hvm hw hB hz1 hk1 hS => ?_)
  obtain ⟨ft, f⟩ := u
  have hT : kJ 19 [(1, .int (nI 12)), (0, .ref qa)] ft := hw
  clear hw
  obtain ⟨hP1, hK1, hD1⟩ := hB
  rw [ht] at hP1
  have hK1 := va_K.moved hvm.symm hK1
  obtain ⟨hP, hD⟩ := va_join (wr := [(h0, .inr (11, fx))]) (w1 := [(qt, .inr (7, ft)), (qa, .inl (ca, 6000, .inl f))]) hP hD [1, 2] [0] rfl rfl (by decide) (by decide) hk1 hFc hP1 hD1
  have hK := (hK.sub (tys' := []) [] rfl).app hK1
  clear hPc hDc hKc hFc hP1 hK1 hD1 hk1 hz1
  generalize H1 = H at hP hS ⊢
  have hP : va_P (dC, dI) vwCl [(h0, .inr (11, fx)), (qt, .inr (7, ft)), (qa, .inl (ca, 6000, .inl f))] H := hP
  have hD : va_D A [(h0, .inr (11, fx)), (qt, .inr (7, ft)), (qa, .inl (ca, 6000, .inl f))] := hD
  have hK : va_K (dC, dI) vwCl [(ca, .byte)] s := hK
  refine lv_aload_n hx hb dX11_feed_42 rfl (lv_at hl 0 rfl) ?_
  refine va_get (D := (dC, dI)) (ci := 11) (v := .ref qt) (C := RX11) (T := TX11) (N := 9) hx hb hts iX11 hown hK hP 0 rfl rfl 0 (by decide) (hts _ (bP 345 rfl)) (fun _ h9 => h9) (kJ_at hJ 0 rfl) dX11_feed_43 ?_
  refine lv_iload hx hb dX11_feed_46 (lv_at hl 4 rfl) ?_
  have hPc := hP.sub (ws' := [(qt, .inr (7, ft)), (qa, .inl (ca, 6000, .inl f))]) [1, 2] rfl
  have hDc := hD.sub (ws' := [(qt, .inr (7, ft)), (qa, .inl (ca, 6000, .inl f))]) [1, 2] (by decide) rfl
  have hKc := hK.sub (tys' := [(ca, .byte)]) [0] rfl
  have hFc := va_free (wc := [(qt, .inr (7, ft)), (qa, .inl (ca, 6000, .inl f))]) hD hS hA [1, 2] rfl
  refine va_callv (va_runV (As := [.int a4]) (rest := []) ⟨hx, hb, hml, hown, hts⟩ (c_Text_append l dC dI qt H.size ft qa ca f 12 a4) (cwV 1 hts (gV (y := yX7_append) _ 426 427 428 343 423 rfl rfl rfl rfl rfl) rfl rfl rfl (by decide +kernel) ⟨Nat.le_of_ble_eq_true rfl, Nat.le_of_ble_eq_true rfl⟩) ⟨fun a U g mk q => by obtain ⟨q0, q1, qJ, qn, qP, qK, qD⟩ := q; exact ⟨q0, q1, qJ, qn, qP, va_K.moved (u := U) (U := U.calling g mk a) (Vm.Alike.refl U.vm) qK, qD⟩, va_recv hKc hPc (ci := 7) (q0 := 0) rfl rfl, fun U hU hW => ⟨rfl, by rw [hU], kJ_sub hT (by simp [nI_0]), by decide, by rw [hU]; exact hPc, va_K.moved hW.alike hKc, hDc.weaken (fun _ _ _ _ => trivial)⟩⟩ rfl rfl hl.1 rfl (lv_room (Nat.le_of_ble_eq_true rfl)) dX11_feed_48 ⟨Nat.le_of_ble_eq_true rfl, Nat.le_of_ble_eq_true rfl⟩) hS (fun q _ h => hFc q h) hFc (fun u t H1 locs ht hvm hw hB hz1 hk1 hS => ?_)
  obtain ⟨ft, f⟩ := u
  have hT : kJ 19 [(1, .int (nI 16)), (0, .ref qa)] ft := hw
  clear hw
  obtain ⟨hP1, hK1, hD1⟩ := hB
  rw [ht] at hP1
  have hK1 := va_K.moved hvm.symm hK1
  obtain ⟨hP, hD⟩ := va_join (wr := [(h0, .inr (11, fx))]) (w1 := [(qt, .inr (7, ft)), (qa, .inl (ca, 6000, .inl f))]) hP hD [1, 2] [0] rfl rfl (by decide) (by decide) hk1 hFc hP1 hD1
  have hK := (hK.sub (tys' := []) [] rfl).app hK1
  clear hPc hDc hKc hFc hP1 hK1 hD1 hk1 hz1
  generalize H1 = H at hP hS ⊢
  have hP : va_P (dC, dI) vwCl [(h0, .inr (11, fx)), (qt, .inr (7, ft)), (qa, .inl (ca, 6000, .inl f))] H := hP
  have hD : va_D A [(h0, .inr (11, fx)), (qt, .inr (7, ft)), (qa, .inl (ca, 6000, .inl f))] := hD
  have hK : va_K (dC, dI) vwCl [(ca, .byte)] s := hK
  refine lv_aload_n hx hb dX11_feed_51 rfl (lv_at hl 0 rfl) ?_
  refine va_get (D := (dC, dI)) (ci := 11) (v := .ref qt) (C := RX11) (T := TX11) (N := 9) hx hb hts iX11 hown hK hP 0 rfl rfl 0 (by decide) (hts _ (bP 345 rfl)) (fun _ h9 => h9) (kJ_at hJ 0 rfl) dX11_feed_52 ?_
  refine lv_iload hx hb dX11_feed_55 (lv_at hl 5 rfl) ?_
  have hPc := hP.sub (ws' := [(qt, .inr (7, ft)), (qa, .inl (ca, 6000, .inl f))]) [1, 2] rfl
  have hDc := hD.sub (ws' := [(qt, .inr (7, ft)), (qa, .inl (ca, 6000, .inl f))]) [1, 2] (by decide) rfl
  have hKc := hK.sub (tys' := [(ca, .byte)]) [0] rfl
  have hFc := va_free (wc := [(qt, .inr (7, ft)), (qa, .inl (ca, 6000, .inl f))]) hD hS hA [1, 2] rfl
  refine va_callv (va_runV (As := [.int a5]) (rest := []) ⟨hx, hb, hml, hown, hts⟩ (c_Text_append l dC dI qt H.size ft qa ca f 16 a5) (cwV 1 hts (gV (y := yX7_append) _ 426 427 428 343 423 rfl rfl rfl rfl rfl) rfl rfl rfl (by decide +kernel) ⟨Nat.le_of_ble_eq_true rfl, Nat.le_of_ble_eq_true rfl⟩) ⟨fun a U g mk q => by obtain ⟨q0, q1, qJ, qn, qP, qK, qD⟩ := q; exact ⟨q0, q1, qJ, qn, qP, va_K.moved (u := U) (U := U.calling g mk a) (Vm.Alike.refl U.vm) qK, qD⟩, va_recv hKc hPc (ci := 7) (q0 := 0) rfl rfl, fun U hU hW => ⟨rfl, by rw [hU], kJ_sub hT (by simp [nI_0]), by decide, by rw [hU]; exact hPc, va_K.moved hW.alike hKc, hDc.weaken (fun _ _ _ _ => trivial)⟩⟩ rfl rfl hl.1 rfl (lv_room (Nat.le_of_ble_eq_true rfl)) dX11_feed_57 ⟨Nat.le_of_ble_eq_true rfl, Nat.le_of_ble_eq_true rfl⟩) hS (fun q _ h => hFc q h) hFc (fun u t H1 locs ht hvm hw hB hz1 hk1 hS => ?_)
  obtain ⟨ft, f⟩ := u
  have hT : kJ 19 [(1, .int (nI 20)), (0, .ref qa)] ft := hw
  clear hw
  obtain ⟨hP1, hK1, hD1⟩ := hB
  rw [ht] at hP1
  have hK1 := va_K.moved hvm.symm hK1
  obtain ⟨hP, hD⟩ := va_join (wr := [(h0, .inr (11, fx))]) (w1 := [(qt, .inr (7, ft)), (qa, .inl (ca, 6000, .inl f))]) hP hD [1, 2] [0] rfl rfl (by decide) (by decide) hk1 hFc hP1 hD1
  have hK := (hK.sub (tys' := []) [] rfl).app hK1
  clear hPc hDc hKc hFc hP1 hK1 hD1 hk1 hz1
  generalize H1 = H at hP hS ⊢
  have hP : va_P (dC, dI) vwCl [(h0, .inr (11, fx)), (qt, .inr (7, ft)), (qa, .inl (ca, 6000, .inl f))] H := hP
  have hD : va_D A [(h0, .inr (11, fx)), (qt, .inr (7, ft)), (qa, .inl (ca, 6000, .inl f))] := hD
  have hK : va_K (dC, dI) vwCl [(ca, .byte)] s := hK
  refine lv_aload_n hx hb dX11_feed_60 rfl (lv_at hl 0 rfl) ?_
  refine va_get (D := (dC, dI)) (ci := 11) (v := .ref qt) (C := RX11) (T := TX11) (N := 9) hx hb hts iX11 hown hK hP 0 rfl rfl 0 (by decide) (hts _ (bP 345 rfl)) (fun _ h9 => h9) (kJ_at hJ 0 rfl) dX11_feed_61 ?_
  refine va_get (D := (dC, dI)) (ci := 7) (v := .int (nI 20)) (C := RX7) (T := TX7) (N := 19) hx hb hts iX7 hown hK hP 1 rfl rfl 1 (by decide) (hts _ (bP 421 rfl)) (fun _ h9 => h9) (kJ_at hT 0 rfl) dX11_feed_64 ?_
  exact W.iret (v := nI 20) hx hb hr (fun t ht hW => ⟨⟨nI 20, (), rfl, rfl, trivial⟩, hS.F ht⟩) hS.2.2 dX11_feed_67

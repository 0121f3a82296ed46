/-! The class: read on an empty tape -/
theorem dX7_cut_0 : decode cX7_cut 0 = .ok (.aload_n 0, 1) := by decide +kernel
theorem dX7_cut_1 : decode cX7_cut 1 = .ok (.invokevirtual 47, 3) := by decide +kernel
theorem dX7_cut_4 : decode cX7_cut 4 = .ok (.aload_n 0, 1) := by decide +kernel
theorem dX7_cut_5 : decode cX7_cut 5 = .ok (.iconst 0, 1) := by decide +kernel
theorem dX7_cut_6 : decode cX7_cut 6 = .ok (.putfield 50, 3) := by decide +kernel
theorem dX7_cut_9 : decode cX7_cut 9 = .ok (.aload_n 0, 1) := by decide +kernel
theorem dX7_cut_10 : decode cX7_cut 10 = .ok (.iconst 0, 1) := by decide +kernel
theorem dX7_cut_11 : decode cX7_cut 11 = .ok (.putfield 53, 3) := by decide +kernel
theorem dX7_cut_14 : decode cX7_cut 14 = .ok (.aload_n 0, 1) := by decide +kernel
theorem dX7_cut_15 : decode cX7_cut 15 = .ok (.iconst 0, 1) := by decide +kernel
theorem dX7_cut_16 : decode cX7_cut 16 = .ok (.putfield 56, 3) := by decide +kernel
theorem dX7_cut_19 : decode cX7_cut 19 = .ok (.aload_n 0, 1) := by decide +kernel
theorem dX7_cut_20 : decode cX7_cut 20 = .ok (.iconst 0, 1) := by decide +kernel
theorem dX7_cut_21 : decode cX7_cut 21 = .ok (.putfield 59, 3) := by decide +kernel
theorem dX7_cut_24 : decode cX7_cut 24 = .ok (.aload_n 0, 1) := by decide +kernel
theorem dX7_cut_25 : decode cX7_cut 25 = .ok (.iconst 1, 1) := by decide +kernel
theorem dX7_cut_26 : decode cX7_cut 26 = .ok (.putfield 62, 3) := by decide +kernel
theorem dX7_cut_29 : decode cX7_cut 29 = .ok (.iconst 0, 1) := by decide +kernel
theorem dX7_cut_30 : decode cX7_cut 30 = .ok (.istore_n 1, 1) := by decide +kernel
theorem dX7_cut_31 : decode cX7_cut 31 = .ok (.iconst 1, 1) := by decide +kernel
theorem dX7_cut_32 : decode cX7_cut 32 = .ok (.istore_n 2, 1) := by decide +kernel
theorem dX7_cut_33 : decode cX7_cut 33 = .ok (.aload_n 0, 1) := by decide +kernel
theorem dX7_cut_34 : decode cX7_cut 34 = .ok (.iconst 0, 1) := by decide +kernel
theorem dX7_cut_35 : decode cX7_cut 35 = .ok (.putfield 65, 3) := by decide +kernel
theorem dX7_cut_38 : decode cX7_cut 38 = .ok (.iconst 0, 1) := by decide +kernel
theorem dX7_cut_39 : decode cX7_cut 39 = .ok (.istore_n 3, 1) := by decide +kernel
theorem dX7_cut_40 : decode cX7_cut 40 = .ok (.iload_n 3, 1) := by decide +kernel
theorem dX7_cut_41 : decode cX7_cut 41 = .ok (.sipush 6000, 3) := by decide +kernel
theorem dX7_cut_44 : decode cX7_cut 44 = .ok (.if_icmp .gt 161, 3) := by decide +kernel
theorem dX7_cut_47 : decode cX7_cut 47 = .ok (.aload_n 0, 1) := by decide +kernel
theorem dX7_cut_48 : decode cX7_cut 48 = .ok (.getfield 65, 3) := by decide +kernel
theorem dX7_cut_51 : decode cX7_cut 51 = .ok (.aload_n 0, 1) := by decide +kernel
theorem dX7_cut_52 : decode cX7_cut 52 = .ok (.getfield 43, 3) := by decide +kernel
theorem dX7_cut_55 : decode cX7_cut 55 = .ok (.if_icmp .ge 150, 3) := by decide +kernel
theorem dX7_cut_205 : decode cX7_cut 205 = .ok (.aload_n 0, 1) := by decide +kernel
theorem dX7_cut_206 : decode cX7_cut 206 = .ok (.iload_n 2, 1) := by decide +kernel
theorem dX7_cut_207 : decode cX7_cut 207 = .ok (.invokevirtual 72, 3) := by decide +kernel
theorem dX7_cut_210 : decode cX7_cut 210 = .ok (.aload_n 0, 1) := by decide +kernel
theorem dX7_cut_211 : decode cX7_cut 211 = .ok (.iconst 0, 1) := by decide +kernel
theorem dX7_cut_212 : decode cX7_cut 212 = .ok (.iconst 0, 1) := by decide +kernel
theorem dX7_cut_213 : decode cX7_cut 213 = .ok (.iconst (-1), 1) := by decide +kernel
theorem dX7_cut_214 : decode cX7_cut 214 = .ok (.invokevirtual 83, 3) := by decide +kernel
theorem dX7_cut_217 : decode cX7_cut 217 = .ok (.return_, 1) := by decide +kernel
theorem dX7_endLine_0 : decode cX7_endLine 0 = .ok (.iload_n 1, 1) := by decide +kernel
theorem dX7_endLine_1 : decode cX7_endLine 1 = .ok (.ifCond .ne 10, 3) := by decide +kernel
theorem dX7_endLine_11 : decode cX7_endLine 11 = .ok (.return_, 1) := by decide +kernel
theorem dX7_add_0 : decode cX7_add 0 = .ok (.aload_n 0, 1) := by decide +kernel
theorem dX7_add_1 : decode cX7_add 1 = .ok (.getfield 50, 3) := by decide +kernel
theorem dX7_add_4 : decode cX7_add 4 = .ok (.aload_n 0, 1) := by decide +kernel
theorem dX7_add_5 : decode cX7_add 5 = .ok (.getfield 15, 3) := by decide +kernel
theorem dX7_add_8 : decode cX7_add 8 = .ok (.arraylength, 1) := by decide +kernel
theorem dX7_add_9 : decode cX7_add 9 = .ok (.if_icmp .ge 56, 3) := by decide +kernel
theorem dX7_add_12 : decode cX7_add 12 = .ok (.aload_n 0, 1) := by decide +kernel
theorem dX7_add_13 : decode cX7_add 13 = .ok (.getfield 15, 3) := by decide +kernel
theorem dX7_add_16 : decode cX7_add 16 = .ok (.aload_n 0, 1) := by decide +kernel
theorem dX7_add_17 : decode cX7_add 17 = .ok (.getfield 50, 3) := by decide +kernel
theorem dX7_add_20 : decode cX7_add 20 = .ok (.iload_n 1, 1) := by decide +kernel
theorem dX7_add_21 : decode cX7_add 21 = .ok (.iastore, 1) := by decide +kernel
theorem dX7_add_22 : decode cX7_add 22 = .ok (.aload_n 0, 1) := by decide +kernel
theorem dX7_add_23 : decode cX7_add 23 = .ok (.getfield 19, 3) := by decide +kernel
theorem dX7_add_26 : decode cX7_add 26 = .ok (.aload_n 0, 1) := by decide +kernel
theorem dX7_add_27 : decode cX7_add 27 = .ok (.getfield 50, 3) := by decide +kernel
theorem dX7_add_30 : decode cX7_add 30 = .ok (.iload_n 2, 1) := by decide +kernel
theorem dX7_add_31 : decode cX7_add 31 = .ok (.iastore, 1) := by decide +kernel
theorem dX7_add_32 : decode cX7_add 32 = .ok (.aload_n 0, 1) := by decide +kernel
theorem dX7_add_33 : decode cX7_add 33 = .ok (.getfield 22, 3) := by decide +kernel
theorem dX7_add_36 : decode cX7_add 36 = .ok (.aload_n 0, 1) := by decide +kernel
theorem dX7_add_37 : decode cX7_add 37 = .ok (.getfield 50, 3) := by decide +kernel
theorem dX7_add_40 : decode cX7_add 40 = .ok (.aload_n 0, 1) := by decide +kernel
theorem dX7_add_41 : decode cX7_add 41 = .ok (.getfield 62, 3) := by decide +kernel
theorem dX7_add_44 : decode cX7_add 44 = .ok (.iastore, 1) := by decide +kernel
theorem dX7_add_45 : decode cX7_add 45 = .ok (.aload_n 0, 1) := by decide +kernel
theorem dX7_add_46 : decode cX7_add 46 = .ok (.getfield 25, 3) := by decide +kernel
theorem dX7_add_49 : decode cX7_add 49 = .ok (.aload_n 0, 1) := by decide +kernel
theorem dX7_add_50 : decode cX7_add 50 = .ok (.getfield 50, 3) := by decide +kernel
theorem dX7_add_53 : decode cX7_add 53 = .ok (.iload_n 3, 1) := by decide +kernel
theorem dX7_add_54 : decode cX7_add 54 = .ok (.iastore, 1) := by decide +kernel
theorem dX7_add_55 : decode cX7_add 55 = .ok (.aload_n 0, 1) := by decide +kernel
theorem dX7_add_56 : decode cX7_add 56 = .ok (.dup, 1) := by decide +kernel
theorem dX7_add_57 : decode cX7_add 57 = .ok (.getfield 50, 3) := by decide +kernel
theorem dX7_add_60 : decode cX7_add 60 = .ok (.iconst 1, 1) := by decide +kernel
theorem dX7_add_61 : decode cX7_add 61 = .ok (.iadd, 1) := by decide +kernel
theorem dX7_add_62 : decode cX7_add 62 = .ok (.putfield 50, 3) := by decide +kernel
theorem dX7_add_65 : decode cX7_add 65 = .ok (.return_, 1) := by decide +kernel
theorem dX8_grow_0 : decode cX8_grow 0 = .ok (.aload_n 0, 1) := by decide +kernel
theorem dX8_grow_1 : decode cX8_grow 1 = .ok (.iconst 0, 1) := by decide +kernel
theorem dX8_grow_2 : decode cX8_grow 2 = .ok (.putfield 46, 3) := by decide +kernel
theorem dX8_grow_5 : decode cX8_grow 5 = .ok (.aload_n 0, 1) := by decide +kernel
theorem dX8_grow_6 : decode cX8_grow 6 = .ok (.iconst 1, 1) := by decide +kernel
theorem dX8_grow_7 : decode cX8_grow 7 = .ok (.putfield 50, 3) := by decide +kernel
theorem dX8_grow_10 : decode cX8_grow 10 = .ok (.aload_n 0, 1) := by decide +kernel
theorem dX8_grow_11 : decode cX8_grow 11 = .ok (.iconst 0, 1) := by decide +kernel
theorem dX8_grow_12 : decode cX8_grow 12 = .ok (.putfield 53, 3) := by decide +kernel
theorem dX8_grow_15 : decode cX8_grow 15 = .ok (.aload_n 0, 1) := by decide +kernel
theorem dX8_grow_16 : decode cX8_grow 16 = .ok (.iconst 0, 1) := by decide +kernel
theorem dX8_grow_17 : decode cX8_grow 17 = .ok (.putfield 56, 3) := by decide +kernel
theorem dX8_grow_20 : decode cX8_grow 20 = .ok (.aload_n 0, 1) := by decide +kernel
theorem dX8_grow_21 : decode cX8_grow 21 = .ok (.aload_n 0, 1) := by decide +kernel
theorem dX8_grow_22 : decode cX8_grow 22 = .ok (.iconst 0, 1) := by decide +kernel
theorem dX8_grow_23 : decode cX8_grow 23 = .ok (.invokevirtual 59, 3) := by decide +kernel
theorem dX8_grow_26 : decode cX8_grow 26 = .ok (.putfield 63, 3) := by decide +kernel
theorem dX8_grow_29 : decode cX8_grow 29 = .ok (.aload_n 0, 1) := by decide +kernel
theorem dX8_grow_30 : decode cX8_grow 30 = .ok (.iconst 0, 1) := by decide +kernel
theorem dX8_grow_31 : decode cX8_grow 31 = .ok (.invokevirtual 66, 3) := by decide +kernel
theorem dX8_grow_34 : decode cX8_grow 34 = .ok (.ifCond .ne 8, 3) := by decide +kernel
theorem dX8_grow_37 : decode cX8_grow 37 = .ok (.aload_n 0, 1) := by decide +kernel
theorem dX8_grow_38 : decode cX8_grow 38 = .ok (.invokevirtual 70, 3) := by decide +kernel
theorem dX8_grow_41 : decode cX8_grow 41 = .ok (.pop, 1) := by decide +kernel
theorem dX8_grow_42 : decode cX8_grow 42 = .ok (.return_, 1) := by decide +kernel
theorem dX8_is_0 : decode cX8_is 0 = .ok (.aload_n 0, 1) := by decide +kernel
theorem dX8_is_1 : decode cX8_is 1 = .ok (.getfield 46, 3) := by decide +kernel
theorem dX8_is_4 : decode cX8_is 4 = .ok (.ifCond .ne 23, 3) := by decide +kernel
theorem dX8_is_27 : decode cX8_is 27 = .ok (.iconst 0, 1) := by decide +kernel
theorem dX8_is_28 : decode cX8_is 28 = .ok (.ireturn, 1) := by decide +kernel
theorem dX8_refuse_0 : decode cX8_refuse 0 = .ok (.aload_n 0, 1) := by decide +kernel
theorem dX8_refuse_1 : decode cX8_refuse 1 = .ok (.getfield 46, 3) := by decide +kernel
theorem dX8_refuse_4 : decode cX8_refuse 4 = .ok (.ifCond .ne 44, 3) := by decide +kernel
theorem dX8_refuse_7 : decode cX8_refuse 7 = .ok (.aload_n 0, 1) := by decide +kernel
theorem dX8_refuse_8 : decode cX8_refuse 8 = .ok (.aload_n 0, 1) := by decide +kernel
theorem dX8_refuse_9 : decode cX8_refuse 9 = .ok (.getfield 42, 3) := by decide +kernel
theorem dX8_refuse_12 : decode cX8_refuse 12 = .ok (.getfield 74, 3) := by decide +kernel
theorem dX8_refuse_15 : decode cX8_refuse 15 = .ok (.aload_n 0, 1) := by decide +kernel
theorem dX8_refuse_16 : decode cX8_refuse 16 = .ok (.getfield 53, 3) := by decide +kernel
theorem dX8_refuse_19 : decode cX8_refuse 19 = .ok (.iaload, 1) := by decide +kernel
theorem dX8_refuse_20 : decode cX8_refuse 20 = .ok (.bipush 16, 2) := by decide +kernel
theorem dX8_refuse_22 : decode cX8_refuse 22 = .ok (.imul, 1) := by decide +kernel
theorem dX8_refuse_23 : decode cX8_refuse 23 = .ok (.aload_n 0, 1) := by decide +kernel
theorem dX8_refuse_24 : decode cX8_refuse 24 = .ok (.getfield 42, 3) := by decide +kernel
theorem dX8_refuse_27 : decode cX8_refuse 27 = .ok (.getfield 83, 3) := by decide +kernel
theorem dX8_refuse_30 : decode cX8_refuse 30 = .ok (.aload_n 0, 1) := by decide +kernel
theorem dX8_refuse_31 : decode cX8_refuse 31 = .ok (.getfield 53, 3) := by decide +kernel
theorem dX8_refuse_34 : decode cX8_refuse 34 = .ok (.iaload, 1) := by decide +kernel
theorem dX8_refuse_35 : decode cX8_refuse 35 = .ok (.iconst 2, 1) := by decide +kernel
theorem dX8_refuse_36 : decode cX8_refuse 36 = .ok (.if_icmp .ne 7, 3) := by decide +kernel
theorem dX8_refuse_43 : decode cX8_refuse 43 = .ok (.iconst 2, 1) := by decide +kernel
theorem dX8_refuse_44 : decode cX8_refuse 44 = .ok (.iadd, 1) := by decide +kernel
theorem dX8_refuse_45 : decode cX8_refuse 45 = .ok (.putfield 46, 3) := by decide +kernel
theorem dX8_refuse_48 : decode cX8_refuse 48 = .ok (.iconst 0, 1) := by decide +kernel
theorem dX8_refuse_49 : decode cX8_refuse 49 = .ok (.ireturn, 1) := by decide +kernel
theorem dX8_lineAt_0 : decode cX8_lineAt 0 = .ok (.aload_n 0, 1) := by decide +kernel
theorem dX8_lineAt_1 : decode cX8_lineAt 1 = .ok (.getfield 46, 3) := by decide +kernel
theorem dX8_lineAt_4 : decode cX8_lineAt 4 = .ok (.ifCond .ne 25, 3) := by decide +kernel
theorem dX8_lineAt_7 : decode cX8_lineAt 7 = .ok (.aload_n 0, 1) := by decide +kernel
theorem dX8_lineAt_8 : decode cX8_lineAt 8 = .ok (.getfield 42, 3) := by decide +kernel
theorem dX8_lineAt_11 : decode cX8_lineAt 11 = .ok (.getfield 84, 3) := by decide +kernel
theorem dX8_lineAt_14 : decode cX8_lineAt 14 = .ok (.aload_n 0, 1) := by decide +kernel
theorem dX8_lineAt_15 : decode cX8_lineAt 15 = .ok (.getfield 53, 3) := by decide +kernel
theorem dX8_lineAt_18 : decode cX8_lineAt 18 = .ok (.iaload, 1) := by decide +kernel
theorem dX8_lineAt_19 : decode cX8_lineAt 19 = .ok (.iconst 2, 1) := by decide +kernel
theorem dX8_lineAt_20 : decode cX8_lineAt 20 = .ok (.iload_n 1, 1) := by decide +kernel
theorem dX8_lineAt_21 : decode cX8_lineAt 21 = .ok (.imul, 1) := by decide +kernel
theorem dX8_lineAt_22 : decode cX8_lineAt 22 = .ok (.if_icmp .ne 7, 3) := by decide +kernel
theorem dX8_lineAt_29 : decode cX8_lineAt 29 = .ok (.iconst 0, 1) := by decide +kernel
theorem dX8_lineAt_30 : decode cX8_lineAt 30 = .ok (.ireturn, 1) := by decide +kernel
theorem dX8_block_0 : decode cX8_block 0 = .ok (.aload_n 0, 1) := by decide +kernel
theorem dX8_block_1 : decode cX8_block 1 = .ok (.iload_n 1, 1) := by decide +kernel
theorem dX8_block_2 : decode cX8_block 2 = .ok (.invokevirtual 103, 3) := by decide +kernel
theorem dX8_block_5 : decode cX8_block 5 = .ok (.ifCond .eq 17, 3) := by decide +kernel
theorem dX8_block_22 : decode cX8_block 22 = .ok (.aload_n 0, 1) := by decide +kernel
theorem dX8_block_23 : decode cX8_block 23 = .ok (.invokevirtual 70, 3) := by decide +kernel
theorem dX8_block_26 : decode cX8_block 26 = .ok (.ireturn, 1) := by decide +kernel
theorem dX11_read_0 : decode cX11_read 0 = .ok (.aload_n 0, 1) := by decide +kernel
theorem dX11_read_1 : decode cX11_read 1 = .ok (.getfield 12, 3) := by decide +kernel
theorem dX11_read_4 : decode cX11_read 4 = .ok (.invokevirtual 87, 3) := by decide +kernel
theorem dX11_read_7 : decode cX11_read 7 = .ok (.aload_n 0, 1) := by decide +kernel
theorem dX11_read_8 : decode cX11_read 8 = .ok (.getfield 12, 3) := by decide +kernel
theorem dX11_read_11 : decode cX11_read 11 = .ok (.iconst 0, 1) := by decide +kernel
theorem dX11_read_12 : decode cX11_read 12 = .ok (.putfield 79, 3) := by decide +kernel
theorem dX11_read_15 : decode cX11_read 15 = .ok (.aload_n 0, 1) := by decide +kernel
theorem dX11_read_16 : decode cX11_read 16 = .ok (.getfield 21, 3) := by decide +kernel
theorem dX11_read_19 : decode cX11_read 19 = .ok (.invokevirtual 90, 3) := by decide +kernel
theorem dX11_read_22 : decode cX11_read 22 = .ok (.aload_n 0, 1) := by decide +kernel
theorem dX11_read_23 : decode cX11_read 23 = .ok (.getfield 21, 3) := by decide +kernel
theorem dX11_read_26 : decode cX11_read 26 = .ok (.getfield 93, 3) := by decide +kernel
theorem dX11_read_29 : decode cX11_read 29 = .ok (.ifCond .ne 10, 3) := by decide +kernel
theorem dX11_read_39 : decode cX11_read 39 = .ok (.aload_n 0, 1) := by decide +kernel
theorem dX11_read_40 : decode cX11_read 40 = .ok (.getfield 21, 3) := by decide +kernel
theorem dX11_read_43 : decode cX11_read 43 = .ok (.getfield 93, 3) := by decide +kernel
theorem dX11_read_46 : decode cX11_read 46 = .ok (.ifCond .ne 10, 3) := by decide +kernel
theorem dX11_read_56 : decode cX11_read 56 = .ok (.aload_n 0, 1) := by decide +kernel
theorem dX11_read_57 : decode cX11_read 57 = .ok (.getfield 21, 3) := by decide +kernel
theorem dX11_read_60 : decode cX11_read 60 = .ok (.getfield 93, 3) := by decide +kernel
theorem dX11_read_63 : decode cX11_read 63 = .ok (.ifCond .ne 10, 3) := by decide +kernel
theorem dX11_read_73 : decode cX11_read 73 = .ok (.aload_n 0, 1) := by decide +kernel
theorem dX11_read_74 : decode cX11_read 74 = .ok (.getfield 21, 3) := by decide +kernel
theorem dX11_read_77 : decode cX11_read 77 = .ok (.getfield 93, 3) := by decide +kernel
theorem dX11_read_80 : decode cX11_read 80 = .ok (.ifCond .ne 14, 3) := by decide +kernel
theorem dX11_read_94 : decode cX11_read 94 = .ok (.aload_n 0, 1) := by decide +kernel
theorem dX11_read_95 : decode cX11_read 95 = .ok (.aload_n 0, 1) := by decide +kernel
theorem dX11_read_96 : decode cX11_read 96 = .ok (.getfield 21, 3) := by decide +kernel
theorem dX11_read_99 : decode cX11_read 99 = .ok (.getfield 93, 3) := by decide +kernel
theorem dX11_read_102 : decode cX11_read 102 = .ok (.ifCond .ne 7, 3) := by decide +kernel
theorem dX11_read_109 : decode cX11_read 109 = .ok (.iconst 0, 1) := by decide +kernel
theorem dX11_read_110 : decode cX11_read 110 = .ok (.putfield 75, 3) := by decide +kernel
theorem dX11_read_113 : decode cX11_read 113 = .ok (.aload_n 0, 1) := by decide +kernel
theorem dX11_read_114 : decode cX11_read 114 = .ok (.getfield 75, 3) := by decide +kernel
theorem dX11_read_117 : decode cX11_read 117 = .ok (.ifCond .eq 10, 3) := by decide +kernel
theorem dX11_read_127 : decode cX11_read 127 = .ok (.aload_n 0, 1) := by decide +kernel
theorem dX11_read_128 : decode cX11_read 128 = .ok (.getfield 71, 3) := by decide +kernel
theorem dX11_read_131 : decode cX11_read 131 = .ok (.iconst 0, 1) := by decide +kernel
theorem dX11_read_132 : decode cX11_read 132 = .ok (.putfield 112, 3) := by decide +kernel
theorem dX11_read_135 : decode cX11_read 135 = .ok (.aload_n 0, 1) := by decide +kernel
theorem dX11_read_136 : decode cX11_read 136 = .ok (.getfield 21, 3) := by decide +kernel
theorem dX11_read_139 : decode cX11_read 139 = .ok (.getfield 93, 3) := by decide +kernel
theorem dX11_read_142 : decode cX11_read 142 = .ok (.ireturn, 1) := by decide +kernel
set_option maxHeartbeats 4000000 in
set_option maxRecDepth 100000 in
/-- c_Text_endLine -/
theorem c_Text_endLine (l : Launch) (dC : Nat → ClassId) (dI : Nat → Nat → Nat) (h0 sz : Nat) (ft : List Value) : Met l yX7_endLine (.code yX7_endLine cX7_endLine 2 none :: wP) ({ frames := 0, cells := 0, slots := 0, locals := 0 }) (va_Pc [.ref h0, .int 1] (fun U => U.heap.size = sz ∧ kJ 19 [] ft ∧ va_P (dC, dI) vwCl [(h0, .inr (7, ft))] U.heap ∧ va_K (dC, dI) vwCl [] U ∧ va_D (fun _ => True) [(h0, .inr (7, ft))])) (va_Qv (fun (_ : Unit) => True) (fun (u : Unit) (t : State) => match u with | _ => va_P (dC, dI) vwCl [(h0, .inr (7, ft))] t.heap ∧ va_K (dC, dI) vwCl [] t ∧ va_D (va_A [(h0, .inr (7, ft))] sz) [(h0, .inr (7, ft))]) (va_A [(h0, .inr (7, ft))] sz)) 0 0 (va_A [(h0, .inr (7, ft))] sz) := by
  refine Met.ofW (cc := cX7_endLine) (maxL := 2) (ret := none) (by decide) rfl ?_
  intro p e s m args below meth c s₁ B hml hv
  obtain ⟨rfl, hsz, hT, hP, hK, hD0⟩ := hv
  have hx := B.exec
  have hb := B.bytes
  have hr := B.returns
  have hts := atoms_spec (ws := .code yX7_endLine cX7_endLine 2 none :: wP) B.pre
  have hown : s.vm.findClass RX7 = some m.cls := findClass_of_methodNamed B.named
  subst hsz
  have hD := hD0.self (sz := s.heap.size)
  generalize hAe : va_A [(h0, .inr (7, ft))] s.heap.size = A at hD ⊢
  have hA : ∀ q : Nat, s.heap.size ≤ q → A q := fun q h => by rw [← hAe]; exact Or.inr h
  have hS : va_S A s.heap s.heap [] := va_S.rf
  have hl := lv_entry ([.ref h0, .int 1]) (n := 2) (Nat.le_of_ble_eq_true rfl)
  rw [lg_entry_eq]
  generalize (lg_sl ([.ref h0, .int 1]) ++ List.replicate (2 - (lg_sl ([.ref h0, .int 1])).length) Slot.unset).toArray = ls at hl ⊢
  obtain ⟨H, hHe⟩ : ∃ H, H = s.heap := ⟨_, rfl⟩
  rw [← hHe] at hP ⊢
  have hS : va_S A s.heap H [] := by rw [hHe]; exact hS
  have hl : lv_has ls 2 [(0, .ref h0), (1, .int 1)] := hl
  refine lv_iload_n hx hb dX7_endLine_0 rfl (lv_at hl 1 rfl) ?_
  refine lv_if_ne (tgt := 11) hx hb dX7_endLine_1 (by decide) (fun _ => ?_) (fun h => absurd h (by decide))
  exact W.vret hx hb hr (fun t ht hW => ⟨⟨(), rfl, trivial, by rw [ht]; exact hP, va_K.moved hW.alike hK, hD⟩, hS.F ht⟩) hS.2.2 dX7_endLine_11
set_option maxHeartbeats 4000000 in
set_option maxRecDepth 100000 in
/-- c_Text_add -/
theorem c_Text_add (l : Launch) (dC : Nat → ClassId) (dI : Nat → Nat → Nat) (h0 sz : Nat) (ft : List Value) (qk qv qi qs : Nat) (ck cv ci cs : ClassId) (fk fv fi fz : Nat → Int32) : Met l yX7_add (.code yX7_add cX7_add 4 none :: wP) ({ frames := 0, cells := 0, slots := 0, locals := 0 }) (va_Pc [.ref h0, .int 0, .int 0, .int ((-1))] (fun U => U.heap.size = sz ∧ kJ 19 [(10, .int 0), (12, .int 1), (2, .ref qk), (3, .ref qv), (4, .ref qi), (5, .ref qs)] ft ∧ va_P (dC, dI) vwCl [(h0, .inr (7, ft)), (qk, .inl (ck, 6010, .inl fk)), (qv, .inl (cv, 6010, .inl fv)), (qi, .inl (ci, 6010, .inl fi)), (qs, .inl (cs, 6010, .inl fz))] U.heap ∧ va_K (dC, dI) vwCl [(ck, .int), (cv, .int), (ci, .int), (cs, .int)] U ∧ va_D (fun _ => True) [(h0, .inr (7, ft)), (qk, .inl (ck, 6010, .inl fk)), (qv, .inl (cv, 6010, .inl fv)), (qi, .inl (ci, 6010, .inl fi)), (qs, .inl (cs, 6010, .inl fz))])) (va_Qv (fun (u : List Value × (Nat → Int32) × (Nat → Int32) × (Nat → Int32) × (Nat → Int32)) => match u with | (ft, fk, fv, fi, fz) => kJ 19 [(2, .ref qk), (4, .ref qi), (5, .ref qs)] ft ∧ fk 0 = 0 ∧ fi 0 = 1 ∧ fz 0 = -1) (fun (u : List Value × (Nat → Int32) × (Nat → Int32) × (Nat → Int32) × (Nat → Int32)) (t : State) => match u with | (ft', fk', fv', fi', fz') => va_P (dC, dI) vwCl [(h0, .inr (7, ft')), (qk, .inl (ck, 6010, .inl fk')), (qv, .inl (cv, 6010, .inl fv')), (qi, .inl (ci, 6010, .inl fi')), (qs, .inl (cs, 6010, .inl fz'))] t.heap ∧ va_K (dC, dI) vwCl [(ck, .int), (cv, .int), (ci, .int), (cs, .int)] t ∧ va_D (va_A [(h0, .inr (7, ft)), (qk, .inl (ck, 6010, .inl fk)), (qv, .inl (cv, 6010, .inl fv)), (qi, .inl (ci, 6010, .inl fi)), (qs, .inl (cs, 6010, .inl fz))] sz) [(h0, .inr (7, ft')), (qk, .inl (ck, 6010, .inl fk')), (qv, .inl (cv, 6010, .inl fv')), (qi, .inl (ci, 6010, .inl fi')), (qs, .inl (cs, 6010, .inl fz'))]) (va_A [(h0, .inr (7, ft)), (qk, .inl (ck, 6010, .inl fk)), (qv, .inl (cv, 6010, .inl fv)), (qi, .inl (ci, 6010, .inl fi)), (qs, .inl (cs, 6010, .inl fz))] sz)) 0 0 (va_A [(h0, .inr (7, ft)), (qk, .inl (ck, 6010, .inl fk)), (qv, .inl (cv, 6010, .inl fv)), (qi, .inl (ci, 6010, .inl fi)), (qs, .inl (cs, 6010, .inl fz))] sz) := by
  refine Met.ofW (cc := cX7_add) (maxL := 4) (ret := none) (by decide) rfl ?_
  intro p e s m args below meth c s₁ B hml hv
  obtain ⟨rfl, hsz, hT, hP, hK, hD0⟩ := hv
  have hx := B.exec
  have hb := B.bytes
  have hr := B.returns
  have hts := atoms_spec (ws := .code yX7_add cX7_add 4 none :: wP) B.pre
  have hown : s.vm.findClass RX7 = some m.cls := findClass_of_methodNamed B.named
  subst hsz
  have hD := hD0.self (sz := s.heap.size)
  generalize hAe : va_A [(h0, .inr (7, ft)), (qk, .inl (ck, 6010, .inl fk)), (qv, .inl (cv, 6010, .inl fv)), (qi, .inl (ci, 6010, .inl fi)), (qs, .inl (cs, 6010, .inl fz))] s.heap.size = A at hD ⊢
  have hA : ∀ q : Nat, s.heap.size ≤ q → A q := fun q h => by rw [← hAe]; exact Or.inr h
  have hS : va_S A s.heap s.heap [] := va_S.rf
  have hl := lv_entry ([.ref h0, .int 0, .int 0, .int ((-1))]) (n := 4) (Nat.le_of_ble_eq_true rfl)
  rw [lg_entry_eq]
  generalize (lg_sl ([.ref h0, .int 0, .int 0, .int ((-1))]) ++ List.replicate (4 - (lg_sl ([.ref h0, .int 0, .int 0, .int ((-1))])).length) Slot.unset).toArray = ls at hl ⊢
  obtain ⟨H, hHe⟩ : ∃ H, H = s.heap := ⟨_, rfl⟩
  rw [← hHe] at hP ⊢
  have hS : va_S A s.heap H [] := by rw [hHe]; exact hS
  have hl : lv_has ls 4 [(0, .ref h0), (1, .int 0), (2, .int 0), (3, .int ((-1)))] := hl
  refine lv_aload_n hx hb dX7_add_0 rfl (lv_at hl 0 rfl) ?_
  refine va_get (D := (dC, dI)) (ci := 7) (v := .int 0) (C := RX7) (T := TX7) (N := 19) hx hb hts iX7 hown hK hP 0 rfl rfl 10 (by decide) (hts _ (bP 503 rfl)) (fun _ h9 => h9) (kJ_at hT 0 rfl) dX7_add_1 ?_
  refine lv_aload_n hx hb dX7_add_4 rfl (lv_at hl 0 rfl) ?_
  refine va_get (D := (dC, dI)) (ci := 7) (v := .ref qk) (C := RX7) (T := TX7) (N := 19) hx hb hts iX7 hown hK hP 0 rfl rfl 2 (by decide) (hts _ (bP 295 rfl)) (fun _ h9 => h9) (kJ_at hT 2 rfl) dX7_add_5 ?_
  refine va_alen hx hb hK hP 1 0 rfl rfl (v := 6010) rfl dX7_add_8 ?_
  refine lv_icmp_ge (tgt := 65) hx hb dX7_add_9 (by decide) (fun h => absurd h (by decide)) (fun _ => ?_)
  refine lv_aload_n hx hb dX7_add_12 rfl (lv_at hl 0 rfl) ?_
  refine va_get (D := (dC, dI)) (ci := 7) (v := .ref qk) (C := RX7) (T := TX7) (N := 19) hx hb hts iX7 hown hK hP 0 rfl rfl 2 (by decide) (hts _ (bP 295 rfl)) (fun _ h9 => h9) (kJ_at hT 2 rfl) dX7_add_13 ?_
  refine lv_aload_n hx hb dX7_add_16 rfl (lv_at hl 0 rfl) ?_
  refine va_get (D := (dC, dI)) (ci := 7) (v := .int 0) (C := RX7) (T := TX7) (N := 19) hx hb hts iX7 hown hK hP 0 rfl rfl 10 (by decide) (hts _ (bP 503 rfl)) (fun _ h9 => h9) (kJ_at hT 0 rfl) dX7_add_17 ?_
  refine lv_iload_n hx hb dX7_add_20 rfl (lv_at hl 1 rfl) ?_
  refine kq_iast hx hb hK hP hD hS 1 0 rfl rfl (by unfold vp_in; decide) dX7_add_21 (fun H locs fk1 efk1 hP hD hS => ?_)
  have hP : va_P (dC, dI) vwCl [(h0, .inr (7, ft)), (qk, .inl (ck, 6010, .inl fk1)), (qv, .inl (cv, 6010, .inl fv)), (qi, .inl (ci, 6010, .inl fi)), (qs, .inl (cs, 6010, .inl fz))] H := hP
  have hD : va_D A [(h0, .inr (7, ft)), (qk, .inl (ck, 6010, .inl fk1)), (qv, .inl (cv, 6010, .inl fv)), (qi, .inl (ci, 6010, .inl fi)), (qs, .inl (cs, 6010, .inl fz))] := hD
  refine lv_aload_n hx hb dX7_add_22 rfl (lv_at hl 0 rfl) ?_
  refine va_get (D := (dC, dI)) (ci := 7) (v := .ref qv) (C := RX7) (T := TX7) (N := 19) hx hb hts iX7 hown hK hP 0 rfl rfl 3 (by decide) (hts _ (bP 296 rfl)) (fun _ h9 => h9) (kJ_at hT 3 rfl) dX7_add_23 ?_
  refine lv_aload_n hx hb dX7_add_26 rfl (lv_at hl 0 rfl) ?_
  refine va_get (D := (dC, dI)) (ci := 7) (v := .int 0) (C := RX7) (T := TX7) (N := 19) hx hb hts iX7 hown hK hP 0 rfl rfl 10 (by decide) (hts _ (bP 503 rfl)) (fun _ h9 => h9) (kJ_at hT 0 rfl) dX7_add_27 ?_
  refine lv_iload_n hx hb dX7_add_30 rfl (lv_at hl 2 rfl) ?_
  refine kq_iast hx hb hK hP hD hS 2 1 rfl rfl (by unfold vp_in; decide) dX7_add_31 (fun H locs fv1 efv1 hP hD hS => ?_)
  have hP : va_P (dC, dI) vwCl [(h0, .inr (7, ft)), (qk, .inl (ck, 6010, .inl fk1)), (qv, .inl (cv, 6010, .inl fv1)), (qi, .inl (ci, 6010, .inl fi)), (qs, .inl (cs, 6010, .inl fz))] H := hP
  have hD : va_D A [(h0, .inr (7, ft)), (qk, .inl (ck, 6010, .inl fk1)), (qv, .inl (cv, 6010, .inl fv1)), (qi, .inl (ci, 6010, .inl fi)), (qs, .inl (cs, 6010, .inl fz))] := hD
  refine lv_aload_n hx hb dX7_add_32 rfl (lv_at hl 0 rfl) ?_
  refine va_get (D := (dC, dI)) (ci := 7) (v := .ref qi) (C := RX7) (T := TX7) (N := 19) hx hb hts iX7 hown hK hP 0 rfl rfl 4 (by decide) (hts _ (bP 297 rfl)) (fun _ h9 => h9) (kJ_at hT 4 rfl) dX7_add_33 ?_
  refine lv_aload_n hx hb dX7_add_36 rfl (lv_at hl 0 rfl) ?_
  refine va_get (D := (dC, dI)) (ci := 7) (v := .int 0) (C := RX7) (T := TX7) (N := 19) hx hb hts iX7 hown hK hP 0 rfl rfl 10 (by decide) (hts _ (bP 503 rfl)) (fun _ h9 => h9) (kJ_at hT 0 rfl) dX7_add_37 ?_
  refine lv_aload_n hx hb dX7_add_40 rfl (lv_at hl 0 rfl) ?_
  refine va_get (D := (dC, dI)) (ci := 7) (v := .int 1) (C := RX7) (T := TX7) (N := 19) hx hb hts iX7 hown hK hP 0 rfl rfl 12 (by decide) (hts _ (bP 504 rfl)) (fun _ h9 => h9) (kJ_at hT 1 rfl) dX7_add_41 ?_
  refine kq_iast hx hb hK hP hD hS 3 2 rfl rfl (by unfold vp_in; decide) dX7_add_44 (fun H locs fi1 efi1 hP hD hS => ?_)
  have hP : va_P (dC, dI) vwCl [(h0, .inr (7, ft)), (qk, .inl (ck, 6010, .inl fk1)), (qv, .inl (cv, 6010, .inl fv1)), (qi, .inl (ci, 6010, .inl fi1)), (qs, .inl (cs, 6010, .inl fz))] H := hP
  have hD : va_D A [(h0, .inr (7, ft)), (qk, .inl (ck, 6010, .inl fk1)), (qv, .inl (cv, 6010, .inl fv1)), (qi, .inl (ci, 6010, .inl fi1)), (qs, .inl (cs, 6010, .inl fz))] := hD
  refine lv_aload_n hx hb dX7_add_45 rfl (lv_at hl 0 rfl) ?_
  refine va_get (D := (dC, dI)) (ci := 7) (v := .ref qs) (C := RX7) (T := TX7) (N := 19) hx hb hts iX7 hown hK hP 0 rfl rfl 5 (by decide) (hts _ (bP 298 rfl)) (fun _ h9 => h9) (kJ_at hT 5 rfl) dX7_add_46 ?_
  refine lv_aload_n hx hb dX7_add_49 rfl (lv_at hl 0 rfl) ?_
  refine va_get (D := (dC, dI)) (ci := 7) (v := .int 0) (C := RX7) (T := TX7) (N := 19) hx hb hts iX7 hown hK hP 0 rfl rfl 10 (by decide) (hts _ (bP 503 rfl)) (fun _ h9 => h9) (kJ_at hT 0 rfl) dX7_add_50 ?_
  refine lv_iload_n hx hb dX7_add_53 rfl (lv_at hl 3 rfl) ?_
  refine kq_iast hx hb hK hP hD hS 4 3 rfl rfl (by unfold vp_in; decide) dX7_add_54 (fun H locs fz1 efz1 hP hD hS => ?_)
  have hP : va_P (dC, dI) vwCl [(h0, .inr (7, ft)), (qk, .inl (ck, 6010, .inl fk1)), (qv, .inl (cv, 6010, .inl fv1)), (qi, .inl (ci, 6010, .inl fi1)), (qs, .inl (cs, 6010, .inl fz1))] H := hP
  have hD : va_D A [(h0, .inr (7, ft)), (qk, .inl (ck, 6010, .inl fk1)), (qv, .inl (cv, 6010, .inl fv1)), (qi, .inl (ci, 6010, .inl fi1)), (qs, .inl (cs, 6010, .inl fz1))] := hD
  refine lv_aload_n hx hb dX7_add_55 rfl (lv_at hl 0 rfl) ?_
  refine lv_dup hx hb dX7_add_56 rfl ?_
  refine va_get (D := (dC, dI)) (ci := 7) (v := .int 0) (C := RX7) (T := TX7) (N := 19) hx hb hts iX7 hown hK hP 0 rfl rfl 10 (by decide) (hts _ (bP 503 rfl)) (fun _ h9 => h9) (kJ_at hT 0 rfl) dX7_add_57 ?_
  refine lv_iconst (v := 1) hx hb dX7_add_60 (by decide) ?_
  refine lv_iadd hx hb dX7_add_61 ?_
  refine k_i (v := 1) (by decide) ?_
  refine kq_put [(10, .int 1), (12, .int 1), (2, .ref qk), (3, .ref qv), (4, .ref qi), (5, .ref qs)] hts iX7 tyX7 tyX7_ok nmX7 hx hb hown hK hP hD hS 0 rfl rfl hT 10 (by decide) (by decide) (hts _ (bP 503 rfl)) rfl (ty := .int) (by decide +kernel) (v := .int 1) rfl rfl dX7_add_62 (fun f h => kJ_put h _ _ (by decide)) (fun H locs ft hT hP hD hS => ?_)
  have hP : va_P (dC, dI) vwCl [(h0, .inr (7, ft)), (qk, .inl (ck, 6010, .inl fk1)), (qv, .inl (cv, 6010, .inl fv1)), (qi, .inl (ci, 6010, .inl fi1)), (qs, .inl (cs, 6010, .inl fz1))] H := hP
  have hD : va_D A [(h0, .inr (7, ft)), (qk, .inl (ck, 6010, .inl fk1)), (qv, .inl (cv, 6010, .inl fv1)), (qi, .inl (ci, 6010, .inl fi1)), (qs, .inl (cs, 6010, .inl fz1))] := hD
  exact W.vret hx hb hr (fun t ht hW => ⟨⟨(ft, fk1, fv1, fi1, fz1), rfl, ⟨kJ_sub hT (by simp), by rw [efk1]; simp [upd], by rw [efi1]; simp [upd], by rw [efz1]; simp [upd]⟩, by rw [ht]; exact hP, va_K.moved hW.alike hK, hD⟩, hS.F ht⟩) hS.2.2 dX7_add_65
set_option maxHeartbeats 4000000 in
set_option maxRecDepth 100000 in
/-- c_Text_cut -/
theorem c_Text_cut (l : Launch) (dC : Nat → ClassId) (dI : Nat → Nat → Nat) (h0 sz : Nat) (ft : List Value) (ql qf qn qb qk qv qi qs : Nat) (cl cf cn cb ck cv ci cs : ClassId) (g fF fN fB fk fv fi fz : Nat → Int32) (s1 v1 l1 s2 v2 l2 s3 v3 l3 : Nat) (f1 f2 f3 : Nat → Int32) : Met l yX7_cut (.code yX7_cut cX7_cut 6 none :: wP) ({ frames := 6, cells := 0, slots := 0, locals := 129 }) (va_Pc [.ref h0] (fun U => U.heap.size = sz ∧ kJ 19 [(14, .ref ql), (15, .ref qf), (16, .ref qn), (17, .ref qb), (2, .ref qk), (3, .ref qv), (4, .ref qi), (5, .ref qs), (1, .int 0)] ft ∧ l1 ≤ 100 ∧ l2 ≤ 100 ∧ l3 ≤ 100 ∧ vk_R RX7 141 "AFTER ALT AND BOOL BYTE CASE CHAN ELSE FALSE FOR FUNCTION IF INT " s1 U ∧ vk_R RX7 147 "IS MINUS MOSTNEG MOSTPOS NOT OF OR PAR PLUS PRI PROC PROTOCOL RESULT SEQ " s2 U ∧ vk_R RX7 149 "SIZE SKIP STOP TIMER TIMES TRUE VAL VALOF WHILE screen keyboard " s3 U ∧ va_P (dC, dI) vwCl [(h0, .inr (7, ft)), (ql, .inl (cl, 6400, .inl g)), (qf, .inl (cf, 3150, .inl fF)), (qn, .inl (cn, 3150, .inl fN)), (qb, .inl (cb, 512, .inl fB)), (qk, .inl (ck, 6010, .inl fk)), (qv, .inl (cv, 6010, .inl fv)), (qi, .inl (ci, 6010, .inl fi)), (qs, .inl (cs, 6010, .inl fz))] U.heap ∧ va_K (dC, dI) vwCl [(cl, .byte), (cf, .int), (cn, .int), (cb, .int), (ck, .int), (cv, .int), (ci, .int), (cs, .int)] U ∧ va_D (fun _ => True) [(h0, .inr (7, ft)), (ql, .inl (cl, 6400, .inl g)), (qf, .inl (cf, 3150, .inl fF)), (qn, .inl (cn, 3150, .inl fN)), (qb, .inl (cb, 512, .inl fB)), (qk, .inl (ck, 6010, .inl fk)), (qv, .inl (cv, 6010, .inl fv)), (qi, .inl (ci, 6010, .inl fi)), (qs, .inl (cs, 6010, .inl fz))] ∧ kS s1 v1 l1 f1 (va_A [(h0, .inr (7, ft)), (ql, .inl (cl, 6400, .inl g)), (qf, .inl (cf, 3150, .inl fF)), (qn, .inl (cn, 3150, .inl fN)), (qb, .inl (cb, 512, .inl fB)), (qk, .inl (ck, 6010, .inl fk)), (qv, .inl (cv, 6010, .inl fv)), (qi, .inl (ci, 6010, .inl fi)), (qs, .inl (cs, 6010, .inl fz))] sz) U U.heap ∧ kS s2 v2 l2 f2 (va_A [(h0, .inr (7, ft)), (ql, .inl (cl, 6400, .inl g)), (qf, .inl (cf, 3150, .inl fF)), (qn, .inl (cn, 3150, .inl fN)), (qb, .inl (cb, 512, .inl fB)), (qk, .inl (ck, 6010, .inl fk)), (qv, .inl (cv, 6010, .inl fv)), (qi, .inl (ci, 6010, .inl fi)), (qs, .inl (cs, 6010, .inl fz))] sz) U U.heap ∧ kS s3 v3 l3 f3 (va_A [(h0, .inr (7, ft)), (ql, .inl (cl, 6400, .inl g)), (qf, .inl (cf, 3150, .inl fF)), (qn, .inl (cn, 3150, .inl fN)), (qb, .inl (cb, 512, .inl fB)), (qk, .inl (ck, 6010, .inl fk)), (qv, .inl (cv, 6010, .inl fv)), (qi, .inl (ci, 6010, .inl fi)), (qs, .inl (cs, 6010, .inl fz))] sz) U U.heap ∧ kE (va_A [(h0, .inr (7, ft)), (ql, .inl (cl, 6400, .inl g)), (qf, .inl (cf, 3150, .inl fF)), (qn, .inl (cn, 3150, .inl fN)), (qb, .inl (cb, 512, .inl fB)), (qk, .inl (ck, 6010, .inl fk)), (qv, .inl (cv, 6010, .inl fv)), (qi, .inl (ci, 6010, .inl fi)), (qs, .inl (cs, 6010, .inl fz))] sz) U U.heap)) (va_Qv (fun (u : List Value × (Nat → Int32) × (Nat → Int32) × (Nat → Int32)) => match u with | (ft, fk, fi, fz) => kJ 19 [(2, .ref qk), (4, .ref qi), (5, .ref qs)] ft ∧ fk 0 = 0 ∧ fi 0 = 1 ∧ fz 0 = -1) (fun (u : List Value × (Nat → Int32) × (Nat → Int32) × (Nat → Int32)) (t : State) => match u with | (ft', fk', fi', fz') => va_P (dC, dI) vwCl [(h0, .inr (7, ft')), (qk, .inl (ck, 6010, .inl fk')), (qi, .inl (ci, 6010, .inl fi')), (qs, .inl (cs, 6010, .inl fz'))] t.heap ∧ va_K (dC, dI) vwCl [(ck, .int), (ci, .int), (cs, .int)] t ∧ va_D (va_A [(h0, .inr (7, ft)), (ql, .inl (cl, 6400, .inl g)), (qf, .inl (cf, 3150, .inl fF)), (qn, .inl (cn, 3150, .inl fN)), (qb, .inl (cb, 512, .inl fB)), (qk, .inl (ck, 6010, .inl fk)), (qv, .inl (cv, 6010, .inl fv)), (qi, .inl (ci, 6010, .inl fi)), (qs, .inl (cs, 6010, .inl fz))] sz) [(h0, .inr (7, ft')), (qk, .inl (ck, 6010, .inl fk')), (qi, .inl (ci, 6010, .inl fi')), (qs, .inl (cs, 6010, .inl fz'))]) (va_A [(h0, .inr (7, ft)), (ql, .inl (cl, 6400, .inl g)), (qf, .inl (cf, 3150, .inl fF)), (qn, .inl (cn, 3150, .inl fN)), (qb, .inl (cb, 512, .inl fB)), (qk, .inl (ck, 6010, .inl fk)), (qv, .inl (cv, 6010, .inl fv)), (qi, .inl (ci, 6010, .inl fi)), (qs, .inl (cs, 6010, .inl fz))] sz)) 0 0 (va_A [(h0, .inr (7, ft)), (ql, .inl (cl, 6400, .inl g)), (qf, .inl (cf, 3150, .inl fF)), (qn, .inl (cn, 3150, .inl fN)), (qb, .inl (cb, 512, .inl fB)), (qk, .inl (ck, 6010, .inl fk)), (qv, .inl (cv, 6010, .inl fv)), (qi, .inl (ci, 6010, .inl fi)), (qs, .inl (cs, 6010, .inl fz))] sz) := by
  refine Met.ofW (cc := cX7_cut) (maxL := 6) (ret := none) (by decide) rfl ?_
  intro p e s m args below meth c s₁ B hml hv
  obtain ⟨rfl, hsz, hT, hl1, hl2, hl3, hR1, hR2, hR3, hP, hK, hD0, hQ1, hQ2, hQ3, hE⟩ := hv
  have hx := B.exec
  have hb := B.bytes
  have hr := B.returns
  have hts := atoms_spec (ws := .code yX7_cut cX7_cut 6 none :: wP) B.pre
  have hown : s.vm.findClass RX7 = some m.cls := findClass_of_methodNamed B.named
  subst hsz
  have hD := hD0.self (sz := s.heap.size)
  generalize hAe : va_A [(h0, .inr (7, ft)), (ql, .inl (cl, 6400, .inl g)), (qf, .inl (cf, 3150, .inl fF)), (qn, .inl (cn, 3150, .inl fN)), (qb, .inl (cb, 512, .inl fB)), (qk, .inl (ck, 6010, .inl fk)), (qv, .inl (cv, 6010, .inl fv)), (qi, .inl (ci, 6010, .inl fi)), (qs, .inl (cs, 6010, .inl fz))] s.heap.size = A at hD hQ1 hQ2 hQ3 hE ⊢
  have hA : ∀ q : Nat, s.heap.size ≤ q → A q := fun q h => by rw [← hAe]; exact Or.inr h
  have hS : va_S A s.heap s.heap [] := va_S.rf
  have hl := lv_entry ([.ref h0]) (n := 6) (Nat.le_of_ble_eq_true rfl)
  rw [lg_entry_eq]
  generalize (lg_sl ([.ref h0]) ++ List.replicate (6 - (lg_sl ([.ref h0])).length) Slot.unset).toArray = ls at hl ⊢
  obtain ⟨H, hHe⟩ : ∃ H, H = s.heap := ⟨_, rfl⟩
  rw [← hHe] at hP ⊢
  have hS : va_S A s.heap H [] := by rw [hHe]; exact hS
  have hl : lv_has ls 6 [(0, .ref h0)] := hl
  refine lv_aload_n hx hb dX7_cut_0 rfl (lv_at hl 0 rfl) ?_
  have hPc := hP.sub (ws' := [(h0, .inr (7, ft)), (ql, .inl (cl, 6400, .inl g)), (qf, .inl (cf, 3150, .inl fF)), (qn, .inl (cn, 3150, .inl fN)), (qb, .inl (cb, 512, .inl fB))]) [0, 1, 2, 3, 4] rfl
  have hDc := hD.sub (ws' := [(h0, .inr (7, ft)), (ql, .inl (cl, 6400, .inl g)), (qf, .inl (cf, 3150, .inl fF)), (qn, .inl (cn, 3150, .inl fN)), (qb, .inl (cb, 512, .inl fB))]) [0, 1, 2, 3, 4] (by decide) rfl
  have hKc := hK.sub (tys' := [(cl, .byte), (cf, .int), (cn, .int), (cb, .int)]) [0, 1, 2, 3] rfl
  have hFc := va_free (wc := [(h0, .inr (7, ft)), (ql, .inl (cl, 6400, .inl g)), (qf, .inl (cf, 3150, .inl fF)), (qn, .inl (cn, 3150, .inl fN)), (qb, .inl (cb, 512, .inl fB))]) hD hS hA [0, 1, 2, 3, 4] rfl
  refine va_callv (va_runV (As := []) (rest := []) ⟨hx, hb, hml, hown, hts⟩ (c_Text_forgetNames l dC dI h0 H.size ft ql qf qn qb qk qv qi qs cl cf cn cb g fF fN fB s1 v1 l1 s2 v2 l2 s3 v3 l3 f1 f2 f3) (cwV 0 hts (gV (y := yX7_forgetNames) _ 506 507 508 343 494 rfl rfl rfl rfl rfl) rfl rfl rfl (by decide +kernel) ⟨Nat.le_of_ble_eq_true rfl, Nat.le_of_ble_eq_true rfl⟩) ⟨fun a U g mk q => by obtain ⟨q0, q1, qJ, a1, a2, a3, b1, b2, b3, qP, qK, qD, q2, q3, q4, qE⟩ := q; exact ⟨q0, q1, qJ, a1, a2, a3, vk_R.same (u := U) (U := U.calling g mk a) rfl b1, vk_R.same (u := U) (U := U.calling g mk a) rfl b2, vk_R.same (u := U) (U := U.calling g mk a) rfl b3, qP, va_K.moved (u := U) (U := U.calling g mk a) (Vm.Alike.refl U.vm) qK, qD, kS.moved (u := U) (U := U.calling g mk a) (Vm.Alike.refl U.vm) q2, kS.moved (u := U) (U := U.calling g mk a) (Vm.Alike.refl U.vm) q3, kS.moved (u := U) (U := U.calling g mk a) (Vm.Alike.refl U.vm) q4, kE.moved (u := U) (U := U.calling g mk a) (Vm.Alike.refl U.vm) qE⟩, va_recv hKc hPc (ci := 7) (q0 := 0) rfl rfl, fun U hU hW => ⟨rfl, by rw [hU], kJ_sub hT (by simp), hl1, hl2, hl3, vk_R.warm hW hR1, vk_R.warm hW hR2, vk_R.warm hW hR3, by rw [hU]; exact hPc, va_K.moved hW.alike hKc, hDc.weaken (fun _ _ _ _ => trivial), by rw [hU]; exact kS.moved hW.alike ((hQ1.kept hS.2.1).narrow hFc), by rw [hU]; exact kS.moved hW.alike ((hQ2.kept hS.2.1).narrow hFc), by rw [hU]; exact kS.moved hW.alike ((hQ3.kept hS.2.1).narrow hFc), by rw [hU]; exact kE.moved hW.alike ((hE.kept hS.2.1).narrow hFc)⟩⟩ rfl rfl hl.1 rfl (lv_room (Nat.le_of_ble_eq_true rfl)) dX7_cut_1 ⟨Nat.le_of_ble_eq_true rfl, Nat.le_of_ble_eq_true rfl⟩) hS (fun q _ h => hFc q h) hFc (fun u t H1 locs ht hvm hw hB hz1 hk1 hS => ?_)
  obtain ⟨N, ft, g, fF, fN, fB⟩ := u
  obtain ⟨hT, -⟩ := hw
  obtain ⟨hP1, hK1, hD1⟩ := hB
  rw [ht] at hP1
  have hK1 := va_K.moved hvm.symm hK1
  obtain ⟨hP, hD⟩ := va_join (wr := [(qk, .inl (ck, 6010, .inl fk)), (qv, .inl (cv, 6010, .inl fv)), (qi, .inl (ci, 6010, .inl fi)), (qs, .inl (cs, 6010, .inl fz))]) (w1 := [(h0, .inr (7, ft)), (ql, .inl (cl, 6400, .inl g)), (qf, .inl (cf, 3150, .inl fF)), (qn, .inl (cn, 3150, .inl fN)), (qb, .inl (cb, 512, .inl fB))]) hP hD [0, 1, 2, 3, 4] [5, 6, 7, 8] rfl rfl (by decide) (by decide) hk1 hFc hP1 hD1
  have hK := (hK.sub (tys' := [(ck, .int), (cv, .int), (ci, .int), (cs, .int)]) [4, 5, 6, 7] rfl).app hK1
  clear hPc hDc hKc hFc hP1 hK1 hD1 hk1 hz1
  generalize H1 = H at hP hS ⊢
  have hP : va_P (dC, dI) vwCl [(qk, .inl (ck, 6010, .inl fk)), (qv, .inl (cv, 6010, .inl fv)), (qi, .inl (ci, 6010, .inl fi)), (qs, .inl (cs, 6010, .inl fz)), (h0, .inr (7, ft)), (ql, .inl (cl, 6400, .inl g)), (qf, .inl (cf, 3150, .inl fF)), (qn, .inl (cn, 3150, .inl fN)), (qb, .inl (cb, 512, .inl fB))] H := hP
  have hD : va_D A [(qk, .inl (ck, 6010, .inl fk)), (qv, .inl (cv, 6010, .inl fv)), (qi, .inl (ci, 6010, .inl fi)), (qs, .inl (cs, 6010, .inl fz)), (h0, .inr (7, ft)), (ql, .inl (cl, 6400, .inl g)), (qf, .inl (cf, 3150, .inl fF)), (qn, .inl (cn, 3150, .inl fN)), (qb, .inl (cb, 512, .inl fB))] := hD
  have hK : va_K (dC, dI) vwCl [(ck, .int), (cv, .int), (ci, .int), (cs, .int), (cl, .byte), (cf, .int), (cn, .int), (cb, .int)] s := hK
  have hP := hP.sub (ws' := [(h0, .inr (7, ft)), (qk, .inl (ck, 6010, .inl fk)), (qv, .inl (cv, 6010, .inl fv)), (qi, .inl (ci, 6010, .inl fi)), (qs, .inl (cs, 6010, .inl fz))]) [4, 0, 1, 2, 3] rfl
  have hD := hD.sub (ws' := [(h0, .inr (7, ft)), (qk, .inl (ck, 6010, .inl fk)), (qv, .inl (cv, 6010, .inl fv)), (qi, .inl (ci, 6010, .inl fi)), (qs, .inl (cs, 6010, .inl fz))]) [4, 0, 1, 2, 3] (by decide) rfl
  have hK := hK.sub (tys' := [(ck, .int), (cv, .int), (ci, .int), (cs, .int)]) [0, 1, 2, 3] rfl
  refine lv_aload_n hx hb dX7_cut_4 rfl (lv_at hl 0 rfl) ?_
  refine lv_iconst (v := 0) hx hb dX7_cut_5 (by decide) ?_
  refine kq_put [(10, .int 0), (18, .int (nI N)), (14, .ref ql), (15, .ref qf), (16, .ref qn), (17, .ref qb), (2, .ref qk), (3, .ref qv), (4, .ref qi), (5, .ref qs), (1, .int 0)] hts iX7 tyX7 tyX7_ok nmX7 hx hb hown hK hP hD hS 0 rfl rfl hT 10 (by decide) (by decide) (hts _ (bP 503 rfl)) rfl (ty := .int) (by decide +kernel) (v := .int 0) rfl rfl dX7_cut_6 (fun f h => kJ_put h _ _ (by decide)) (fun H locs ft hT hP hD hS => ?_)
  have hP : va_P (dC, dI) vwCl [(h0, .inr (7, ft)), (qk, .inl (ck, 6010, .inl fk)), (qv, .inl (cv, 6010, .inl fv)), (qi, .inl (ci, 6010, .inl fi)), (qs, .inl (cs, 6010, .inl fz))] H := hP
  have hD : va_D A [(h0, .inr (7, ft)), (qk, .inl (ck, 6010, .inl fk)), (qv, .inl (cv, 6010, .inl fv)), (qi, .inl (ci, 6010, .inl fi)), (qs, .inl (cs, 6010, .inl fz))] := hD
  refine lv_aload_n hx hb dX7_cut_9 rfl (lv_at hl 0 rfl) ?_
  refine lv_iconst (v := 0) hx hb dX7_cut_10 (by decide) ?_
  refine kq_put [(6, .int 0), (10, .int 0), (18, .int (nI N)), (14, .ref ql), (15, .ref qf), (16, .ref qn), (17, .ref qb), (2, .ref qk), (3, .ref qv), (4, .ref qi), (5, .ref qs), (1, .int 0)] hts iX7 tyX7 tyX7_ok nmX7 hx hb hown hK hP hD hS 0 rfl rfl hT 6 (by decide) (by decide) (hts _ (bP 509 rfl)) rfl (ty := .int) (by decide +kernel) (v := .int 0) rfl rfl dX7_cut_11 (fun f h => kJ_put h _ _ (by decide)) (fun H locs ft hT hP hD hS => ?_)
  have hP : va_P (dC, dI) vwCl [(h0, .inr (7, ft)), (qk, .inl (ck, 6010, .inl fk)), (qv, .inl (cv, 6010, .inl fv)), (qi, .inl (ci, 6010, .inl fi)), (qs, .inl (cs, 6010, .inl fz))] H := hP
  have hD : va_D A [(h0, .inr (7, ft)), (qk, .inl (ck, 6010, .inl fk)), (qv, .inl (cv, 6010, .inl fv)), (qi, .inl (ci, 6010, .inl fi)), (qs, .inl (cs, 6010, .inl fz))] := hD
  refine lv_aload_n hx hb dX7_cut_14 rfl (lv_at hl 0 rfl) ?_
  refine lv_iconst (v := 0) hx hb dX7_cut_15 (by decide) ?_
  refine kq_put [(7, .int 0), (6, .int 0), (10, .int 0), (18, .int (nI N)), (14, .ref ql), (15, .ref qf), (16, .ref qn), (17, .ref qb), (2, .ref qk), (3, .ref qv), (4, .ref qi), (5, .ref qs), (1, .int 0)] hts iX7 tyX7 tyX7_ok nmX7 hx hb hown hK hP hD hS 0 rfl rfl hT 7 (by decide) (by decide) (hts _ (bP 510 rfl)) rfl (ty := .int) (by decide +kernel) (v := .int 0) rfl rfl dX7_cut_16 (fun f h => kJ_put h _ _ (by decide)) (fun H locs ft hT hP hD hS => ?_)
  have hP : va_P (dC, dI) vwCl [(h0, .inr (7, ft)), (qk, .inl (ck, 6010, .inl fk)), (qv, .inl (cv, 6010, .inl fv)), (qi, .inl (ci, 6010, .inl fi)), (qs, .inl (cs, 6010, .inl fz))] H := hP
  have hD : va_D A [(h0, .inr (7, ft)), (qk, .inl (ck, 6010, .inl fk)), (qv, .inl (cv, 6010, .inl fv)), (qi, .inl (ci, 6010, .inl fi)), (qs, .inl (cs, 6010, .inl fz))] := hD
  refine lv_aload_n hx hb dX7_cut_19 rfl (lv_at hl 0 rfl) ?_
  refine lv_iconst (v := 0) hx hb dX7_cut_20 (by decide) ?_
  refine kq_put [(9, .int 0), (7, .int 0), (6, .int 0), (10, .int 0), (18, .int (nI N)), (14, .ref ql), (15, .ref qf), (16, .ref qn), (17, .ref qb), (2, .ref qk), (3, .ref qv), (4, .ref qi), (5, .ref qs), (1, .int 0)] hts iX7 tyX7 tyX7_ok nmX7 hx hb hown hK hP hD hS 0 rfl rfl hT 9 (by decide) (by decide) (hts _ (bP 511 rfl)) rfl (ty := .int) (by decide +kernel) (v := .int 0) rfl rfl dX7_cut_21 (fun f h => kJ_put h _ _ (by decide)) (fun H locs ft hT hP hD hS => ?_)
  have hP : va_P (dC, dI) vwCl [(h0, .inr (7, ft)), (qk, .inl (ck, 6010, .inl fk)), (qv, .inl (cv, 6010, .inl fv)), (qi, .inl (ci, 6010, .inl fi)), (qs, .inl (cs, 6010, .inl fz))] H := hP
  have hD : va_D A [(h0, .inr (7, ft)), (qk, .inl (ck, 6010, .inl fk)), (qv, .inl (cv, 6010, .inl fv)), (qi, .inl (ci, 6010, .inl fi)), (qs, .inl (cs, 6010, .inl fz))] := hD
  refine lv_aload_n hx hb dX7_cut_24 rfl (lv_at hl 0 rfl) ?_
  refine lv_iconst (v := 1) hx hb dX7_cut_25 (by decide) ?_
  refine kq_put [(12, .int 1), (9, .int 0), (7, .int 0), (6, .int 0), (10, .int 0), (18, .int (nI N)), (14, .ref ql), (15, .ref qf), (16, .ref qn), (17, .ref qb), (2, .ref qk), (3, .ref qv), (4, .ref qi), (5, .ref qs), (1, .int 0)] hts iX7 tyX7 tyX7_ok nmX7 hx hb hown hK hP hD hS 0 rfl rfl hT 12 (by decide) (by decide) (hts _ (bP 504 rfl)) rfl (ty := .int) (by decide +kernel) (v := .int 1) rfl rfl dX7_cut_26 (fun f h => kJ_put h _ _ (by decide)) (fun H locs ft hT hP hD hS => ?_)
  have hP : va_P (dC, dI) vwCl [(h0, .inr (7, ft)), (qk, .inl (ck, 6010, .inl fk)), (qv, .inl (cv, 6010, .inl fv)), (qi, .inl (ci, 6010, .inl fi)), (qs, .inl (cs, 6010, .inl fz))] H := hP
  have hD : va_D A [(h0, .inr (7, ft)), (qk, .inl (ck, 6010, .inl fk)), (qv, .inl (cv, 6010, .inl fv)), (qi, .inl (ci, 6010, .inl fi)), (qs, .inl (cs, 6010, .inl fz))] := hD
  refine lv_iconst (v := 0) hx hb dX7_cut_29 (by decide) ?_
  refine lv_istore_n (lv' := [(1, .int 0), (0, .ref h0)]) hx hb dX7_cut_30 rfl hl (by decide) rfl (fun ls hl => ?_)
  refine lv_iconst (v := 1) hx hb dX7_cut_31 (by decide) ?_
  refine lv_istore_n (lv' := [(2, .int 1), (1, .int 0), (0, .ref h0)]) hx hb dX7_cut_32 rfl hl (by decide) rfl (fun ls hl => ?_)
  refine lv_aload_n hx hb dX7_cut_33 rfl (lv_at hl 2 rfl) ?_
  refine lv_iconst (v := 0) hx hb dX7_cut_34 (by decide) ?_
  refine kq_put [(11, .int 0), (12, .int 1), (9, .int 0), (7, .int 0), (6, .int 0), (10, .int 0), (18, .int (nI N)), (14, .ref ql), (15, .ref qf), (16, .ref qn), (17, .ref qb), (2, .ref qk), (3, .ref qv), (4, .ref qi), (5, .ref qs), (1, .int 0)] hts iX7 tyX7 tyX7_ok nmX7 hx hb hown hK hP hD hS 0 rfl rfl hT 11 (by decide) (by decide) (hts _ (bP 512 rfl)) rfl (ty := .int) (by decide +kernel) (v := .int 0) rfl rfl dX7_cut_35 (fun f h => kJ_put h _ _ (by decide)) (fun H locs ft hT hP hD hS => ?_)
  have hP : va_P (dC, dI) vwCl [(h0, .inr (7, ft)), (qk, .inl (ck, 6010, .inl fk)), (qv, .inl (cv, 6010, .inl fv)), (qi, .inl (ci, 6010, .inl fi)), (qs, .inl (cs, 6010, .inl fz))] H := hP
  have hD : va_D A [(h0, .inr (7, ft)), (qk, .inl (ck, 6010, .inl fk)), (qv, .inl (cv, 6010, .inl fv)), (qi, .inl (ci, 6010, .inl fi)), (qs, .inl (cs, 6010, .inl fz))] := hD
  refine lv_iconst (v := 0) hx hb dX7_cut_38 (by decide) ?_
  refine lv_istore_n (lv' := [(3, .int 0), (2, .int 1), (1, .int 0), (0, .ref h0)]) hx hb dX7_cut_39 rfl hl (by decide) rfl (fun ls hl => ?_)
  refine lv_iload_n hx hb dX7_cut_40 rfl (lv_at hl 0 rfl) ?_
  refine lv_sipush (v := 6000) hx hb dX7_cut_41 (by decide) ?_
  refine lv_icmp_gt (tgt := 205) hx hb dX7_cut_44 (by decide) (fun h => absurd h (by decide)) (fun _ => ?_)
  refine lv_aload_n hx hb dX7_cut_47 rfl (lv_at hl 3 rfl) ?_
  refine va_get (D := (dC, dI)) (ci := 7) (v := .int 0) (C := RX7) (T := TX7) (N := 19) hx hb hts iX7 hown hK hP 0 rfl rfl 11 (by decide) (hts _ (bP 512 rfl)) (fun _ h9 => h9) (kJ_at hT 0 rfl) dX7_cut_48 ?_
  refine lv_aload_n hx hb dX7_cut_51 rfl (lv_at hl 3 rfl) ?_
  refine va_get (D := (dC, dI)) (ci := 7) (v := .int 0) (C := RX7) (T := TX7) (N := 19) hx hb hts iX7 hown hK hP 0 rfl rfl 1 (by decide) (hts _ (bP 424 rfl)) (fun _ h9 => h9) (kJ_at hT 15 rfl) dX7_cut_52 ?_
  refine lv_icmp_ge (tgt := 205) hx hb dX7_cut_55 (by decide) (fun _ => ?_) (fun h => absurd h (by decide))
  refine lv_aload_n hx hb dX7_cut_205 rfl (lv_at hl 3 rfl) ?_
  refine lv_iload_n hx hb dX7_cut_206 rfl (lv_at hl 1 rfl) ?_
  have hPc := hP.sub (ws' := [(h0, .inr (7, ft))]) [0] rfl
  have hDc := hD.sub (ws' := [(h0, .inr (7, ft))]) [0] (by decide) rfl
  have hKc := hK.sub (tys' := []) [] rfl
  have hFc := va_free (wc := [(h0, .inr (7, ft))]) hD hS hA [0] rfl
  refine va_callv (va_runV (As := [.int 1]) (rest := []) ⟨hx, hb, hml, hown, hts⟩ (c_Text_endLine l dC dI h0 H.size ft) (cwV 1 hts (gV (y := yX7_endLine) _ 513 514 515 343 501 rfl rfl rfl rfl rfl) rfl rfl rfl (by decide +kernel) ⟨Nat.le_of_ble_eq_true rfl, Nat.le_of_ble_eq_true rfl⟩) ⟨fun a U g mk q => by obtain ⟨q0, q1, qJ, qP, qK, qD⟩ := q; exact ⟨q0, q1, qJ, qP, va_K.moved (u := U) (U := U.calling g mk a) (Vm.Alike.refl U.vm) qK, qD⟩, va_recv hKc hPc (ci := 7) (q0 := 0) rfl rfl, fun U hU hW => ⟨rfl, by rw [hU], kJ_sub hT (by simp), by rw [hU]; exact hPc, va_K.moved hW.alike hKc, hDc.weaken (fun _ _ _ _ => trivial)⟩⟩ rfl rfl hl.1 rfl (lv_room (Nat.le_of_ble_eq_true rfl)) dX7_cut_207 ⟨Nat.le_of_ble_eq_true rfl, Nat.le_of_ble_eq_true rfl⟩) hS (fun q _ h => hFc q h) hFc (fun u t H1 locs ht hvm hw hB hz1 hk1 hS => ?_)
  obtain ⟨hP1, hK1, hD1⟩ := hB
  rw [ht] at hP1
  have hK1 := va_K.moved hvm.symm hK1
  obtain ⟨hP, hD⟩ := va_join (wr := [(qk, .inl (ck, 6010, .inl fk)), (qv, .inl (cv, 6010, .inl fv)), (qi, .inl (ci, 6010, .inl fi)), (qs, .inl (cs, 6010, .inl fz))]) (w1 := [(h0, .inr (7, ft))]) hP hD [0] [1, 2, 3, 4] rfl rfl (by decide) (by decide) hk1 hFc hP1 hD1
  have hK := (hK.sub (tys' := [(ck, .int), (cv, .int), (ci, .int), (cs, .int)]) [0, 1, 2, 3] rfl).app hK1
  clear hPc hDc hKc hFc hP1 hK1 hD1 hk1 hz1
  generalize H1 = H at hP hS ⊢
  have hP : va_P (dC, dI) vwCl [(qk, .inl (ck, 6010, .inl fk)), (qv, .inl (cv, 6010, .inl fv)), (qi, .inl (ci, 6010, .inl fi)), (qs, .inl (cs, 6010, .inl fz)), (h0, .inr (7, ft))] H := hP
  have hD : va_D A [(qk, .inl (ck, 6010, .inl fk)), (qv, .inl (cv, 6010, .inl fv)), (qi, .inl (ci, 6010, .inl fi)), (qs, .inl (cs, 6010, .inl fz)), (h0, .inr (7, ft))] := hD
  have hK : va_K (dC, dI) vwCl [(ck, .int), (cv, .int), (ci, .int), (cs, .int)] s := hK
  have hP := hP.sub (ws' := [(h0, .inr (7, ft)), (qk, .inl (ck, 6010, .inl fk)), (qv, .inl (cv, 6010, .inl fv)), (qi, .inl (ci, 6010, .inl fi)), (qs, .inl (cs, 6010, .inl fz))]) [4, 0, 1, 2, 3] rfl
  have hD := hD.sub (ws' := [(h0, .inr (7, ft)), (qk, .inl (ck, 6010, .inl fk)), (qv, .inl (cv, 6010, .inl fv)), (qi, .inl (ci, 6010, .inl fi)), (qs, .inl (cs, 6010, .inl fz))]) [4, 0, 1, 2, 3] (by decide) rfl
  refine lv_aload_n hx hb dX7_cut_210 rfl (lv_at hl 3 rfl) ?_
  refine lv_iconst (v := 0) hx hb dX7_cut_211 (by decide) ?_
  refine lv_iconst (v := 0) hx hb dX7_cut_212 (by decide) ?_
  refine lv_iconst (v := (-1)) hx hb dX7_cut_213 (by decide) ?_
  have hPc := hP.sub (ws' := [(h0, .inr (7, ft)), (qk, .inl (ck, 6010, .inl fk)), (qv, .inl (cv, 6010, .inl fv)), (qi, .inl (ci, 6010, .inl fi)), (qs, .inl (cs, 6010, .inl fz))]) [0, 1, 2, 3, 4] rfl
  have hDc := hD.sub (ws' := [(h0, .inr (7, ft)), (qk, .inl (ck, 6010, .inl fk)), (qv, .inl (cv, 6010, .inl fv)), (qi, .inl (ci, 6010, .inl fi)), (qs, .inl (cs, 6010, .inl fz))]) [0, 1, 2, 3, 4] (by decide) rfl
  have hKc := hK.sub (tys' := [(ck, .int), (cv, .int), (ci, .int), (cs, .int)]) [0, 1, 2, 3] rfl
  have hFc := va_free (wc := [(h0, .inr (7, ft)), (qk, .inl (ck, 6010, .inl fk)), (qv, .inl (cv, 6010, .inl fv)), (qi, .inl (ci, 6010, .inl fi)), (qs, .inl (cs, 6010, .inl fz))]) hD hS hA [0, 1, 2, 3, 4] rfl
  refine va_callv (va_runV (As := [.int 0, .int 0, .int (-1)]) (rest := []) ⟨hx, hb, hml, hown, hts⟩ (c_Text_add l dC dI h0 H.size ft qk qv qi qs ck cv ci cs fk fv fi fz) (cwV 3 hts (gV (y := yX7_add) _ 516 517 518 343 502 rfl rfl rfl rfl rfl) rfl rfl rfl (by decide +kernel) ⟨Nat.le_of_ble_eq_true rfl, Nat.le_of_ble_eq_true rfl⟩) ⟨fun a U g mk q => by obtain ⟨q0, q1, qJ, qP, qK, qD⟩ := q; exact ⟨q0, q1, qJ, qP, va_K.moved (u := U) (U := U.calling g mk a) (Vm.Alike.refl U.vm) qK, qD⟩, va_recv hKc hPc (ci := 7) (q0 := 0) rfl rfl, fun U hU hW => ⟨rfl, by rw [hU], kJ_sub hT (by simp), by rw [hU]; exact hPc, va_K.moved hW.alike hKc, hDc.weaken (fun _ _ _ _ => trivial)⟩⟩ rfl rfl hl.1 rfl (lv_room (Nat.le_of_ble_eq_true rfl)) dX7_cut_214 ⟨Nat.le_of_ble_eq_true rfl, Nat.le_of_ble_eq_true rfl⟩) hS (fun q _ h => hFc q h) hFc (fun u t H1 locs ht hvm hw hB hz1 hk1 hS => ?_)
  obtain ⟨ft, fk, fv, fi, fz⟩ := u
  obtain ⟨hT, hk0, hi0, hz0⟩ := hw
  obtain ⟨hP1, hK1, hD1⟩ := hB
  rw [ht] at hP1
  have hK1 := va_K.moved hvm.symm hK1
  obtain ⟨hP, hD⟩ := va_join (wr := []) (w1 := [(h0, .inr (7, ft)), (qk, .inl (ck, 6010, .inl fk)), (qv, .inl (cv, 6010, .inl fv)), (qi, .inl (ci, 6010, .inl fi)), (qs, .inl (cs, 6010, .inl fz))]) hP hD [0, 1, 2, 3, 4] [] rfl rfl (by decide) (by decide) hk1 hFc hP1 hD1
  have hK := (hK.sub (tys' := []) [] rfl).app hK1
  clear hPc hDc hKc hFc hP1 hK1 hD1 hk1 hz1
  generalize H1 = H at hP hS ⊢
  have hP : va_P (dC, dI) vwCl [(h0, .inr (7, ft)), (qk, .inl (ck, 6010, .inl fk)), (qv, .inl (cv, 6010, .inl fv)), (qi, .inl (ci, 6010, .inl fi)), (qs, .inl (cs, 6010, .inl fz))] H := hP
  have hD : va_D A [(h0, .inr (7, ft)), (qk, .inl (ck, 6010, .inl fk)), (qv, .inl (cv, 6010, .inl fv)), (qi, .inl (ci, 6010, .inl fi)), (qs, .inl (cs, 6010, .inl fz))] := hD
  have hK : va_K (dC, dI) vwCl [(ck, .int), (cv, .int), (ci, .int), (cs, .int)] s := hK
  have hP := hP.sub (ws' := [(h0, .inr (7, ft)), (qk, .inl (ck, 6010, .inl fk)), (qi, .inl (ci, 6010, .inl fi)), (qs, .inl (cs, 6010, .inl fz))]) [0, 1, 3, 4] rfl
  have hD := hD.sub (ws' := [(h0, .inr (7, ft)), (qk, .inl (ck, 6010, .inl fk)), (qi, .inl (ci, 6010, .inl fi)), (qs, .inl (cs, 6010, .inl fz))]) [0, 1, 3, 4] (by decide) rfl
  have hK := hK.sub (tys' := [(ck, .int), (ci, .int), (cs, .int)]) [0, 2, 3] rfl
  exact W.vret hx hb hr (fun t ht hW => ⟨⟨(ft, fk, fi, fz), rfl, ⟨hT, hk0, hi0, hz0⟩, by rw [ht]; exact hP, va_K.moved hW.alike hK, hD⟩, hS.F ht⟩) hS.2.2 dX7_cut_217
set_option maxHeartbeats 4000000 in
set_option maxRecDepth 100000 in
/-- c_Tree_lineAt -/
theorem c_Tree_lineAt (l : Launch) (dC : Nat → ClassId) (dI : Nat → Nat → Nat) (h0 sz : Nat) (fr ft : List Value) (qt qk qi qs : Nat) (ck ci cs : ClassId) (fk fi fz : Nat → Int32) : Met l yX8_lineAt (.code yX8_lineAt cX8_lineAt 2 (some .boolean) :: wP) ({ frames := 0, cells := 0, slots := 0, locals := 0 }) (va_Pc [.ref h0, .int 0] (fun U => U.heap.size = sz ∧ kJ 17 [(11, .int 0), (12, .ref qt), (14, .int 0)] fr ∧ kJ 19 [(2, .ref qk), (4, .ref qi), (5, .ref qs)] ft ∧ fk 0 = 0 ∧ fi 0 = 1 ∧ fz 0 = -1 ∧ va_P (dC, dI) vwCl [(h0, .inr (8, fr)), (qt, .inr (7, ft)), (qk, .inl (ck, 6010, .inl fk)), (qi, .inl (ci, 6010, .inl fi)), (qs, .inl (cs, 6010, .inl fz))] U.heap ∧ va_K (dC, dI) vwCl [(ck, .int), (ci, .int), (cs, .int)] U ∧ va_D (fun _ => True) [(h0, .inr (8, fr)), (qt, .inr (7, ft)), (qk, .inl (ck, 6010, .inl fk)), (qi, .inl (ci, 6010, .inl fi)), (qs, .inl (cs, 6010, .inl fz))])) (va_Qi (fun (r : Int32) (_ : Unit) => r = 0) (fun (u : Unit) (t : State) => match u with | _ => va_P (dC, dI) vwCl [(h0, .inr (8, fr)), (qt, .inr (7, ft)), (qk, .inl (ck, 6010, .inl fk)), (qi, .inl (ci, 6010, .inl fi)), (qs, .inl (cs, 6010, .inl fz))] t.heap ∧ va_K (dC, dI) vwCl [(ck, .int), (ci, .int), (cs, .int)] t ∧ va_D (va_A [(h0, .inr (8, fr)), (qt, .inr (7, ft)), (qk, .inl (ck, 6010, .inl fk)), (qi, .inl (ci, 6010, .inl fi)), (qs, .inl (cs, 6010, .inl fz))] sz) [(h0, .inr (8, fr)), (qt, .inr (7, ft)), (qk, .inl (ck, 6010, .inl fk)), (qi, .inl (ci, 6010, .inl fi)), (qs, .inl (cs, 6010, .inl fz))]) (va_A [(h0, .inr (8, fr)), (qt, .inr (7, ft)), (qk, .inl (ck, 6010, .inl fk)), (qi, .inl (ci, 6010, .inl fi)), (qs, .inl (cs, 6010, .inl fz))] sz)) 0 0 (va_A [(h0, .inr (8, fr)), (qt, .inr (7, ft)), (qk, .inl (ck, 6010, .inl fk)), (qi, .inl (ci, 6010, .inl fi)), (qs, .inl (cs, 6010, .inl fz))] sz) := by
  refine Met.ofW (cc := cX8_lineAt) (maxL := 2) (ret := (some .boolean)) (by decide) rfl ?_
  intro p e s m args below meth c s₁ B hml hv
  obtain ⟨rfl, hsz, hR, hT, hk0, hi0, hz0, hP, hK, hD0⟩ := hv
  have hx := B.exec
  have hb := B.bytes
  have hr := B.returns
  have hts := atoms_spec (ws := .code yX8_lineAt cX8_lineAt 2 (some .boolean) :: wP) B.pre
  have hown : s.vm.findClass RX8 = some m.cls := findClass_of_methodNamed B.named
  subst hsz
  have hD := hD0.self (sz := s.heap.size)
  generalize hAe : va_A [(h0, .inr (8, fr)), (qt, .inr (7, ft)), (qk, .inl (ck, 6010, .inl fk)), (qi, .inl (ci, 6010, .inl fi)), (qs, .inl (cs, 6010, .inl fz))] s.heap.size = A at hD ⊢
  have hA : ∀ q : Nat, s.heap.size ≤ q → A q := fun q h => by rw [← hAe]; exact Or.inr h
  have hS : va_S A s.heap s.heap [] := va_S.rf
  have hl := lv_entry ([.ref h0, .int 0]) (n := 2) (Nat.le_of_ble_eq_true rfl)
  rw [lg_entry_eq]
  generalize (lg_sl ([.ref h0, .int 0]) ++ List.replicate (2 - (lg_sl ([.ref h0, .int 0])).length) Slot.unset).toArray = ls at hl ⊢
  obtain ⟨H, hHe⟩ : ∃ H, H = s.heap := ⟨_, rfl⟩
  rw [← hHe] at hP ⊢
  have hS : va_S A s.heap H [] := by rw [hHe]; exact hS
  have hl : lv_has ls 2 [(0, .ref h0), (1, .int 0)] := hl
  refine lv_aload_n hx hb dX8_lineAt_0 rfl (lv_at hl 0 rfl) ?_
  refine va_get (D := (dC, dI)) (ci := 8) (v := .int 0) (C := RX8) (T := TX8) (N := 17) hx hb hts iX8 hown hK hP 0 rfl rfl 11 (by decide) (hts _ (bP 520 rfl)) (fun _ h9 => h9) (kJ_at hR 0 rfl) dX8_lineAt_1 ?_
  refine lv_if_ne (tgt := 29) hx hb dX8_lineAt_4 (by decide) (fun h => absurd h (by decide)) (fun _ => ?_)
  refine lv_aload_n hx hb dX8_lineAt_7 rfl (lv_at hl 0 rfl) ?_
  refine va_get (D := (dC, dI)) (ci := 8) (v := .ref qt) (C := RX8) (T := TX8) (N := 17) hx hb hts iX8 hown hK hP 0 rfl rfl 12 (by decide) (hts _ (bP 290 rfl)) (fun _ h9 => h9) (kJ_at hR 1 rfl) dX8_lineAt_8 ?_
  refine va_get (D := (dC, dI)) (ci := 7) (v := .ref qs) (C := RX7) (T := TX7) (N := 19) hx hb hts iX7 hown hK hP 1 rfl rfl 5 (by decide) (hts _ (bP 521 rfl)) (fun _ h9 => h9) (kJ_at hT 2 rfl) dX8_lineAt_11 ?_
  refine lv_aload_n hx hb dX8_lineAt_14 rfl (lv_at hl 0 rfl) ?_
  refine va_get (D := (dC, dI)) (ci := 8) (v := .int 0) (C := RX8) (T := TX8) (N := 17) hx hb hts iX8 hown hK hP 0 rfl rfl 14 (by decide) (hts _ (bP 522 rfl)) (fun _ h9 => h9) (kJ_at hR 2 rfl) dX8_lineAt_15 ?_
  refine va_iald hx hb hK hP 4 2 rfl rfl (by unfold vp_in; decide) dX8_lineAt_18 ?_
  refine k_i (v := (-1)) (by rw [sb_cl0]; exact hz0) ?_
  refine lv_iconst (v := 2) hx hb dX8_lineAt_19 (by decide) ?_
  refine lv_iload_n hx hb dX8_lineAt_20 rfl (lv_at hl 1 rfl) ?_
  refine lv_imul hx hb dX8_lineAt_21 ?_
  refine k_i (v := 0) (by decide) ?_
  refine lv_icmp_ne (tgt := 29) hx hb dX8_lineAt_22 (by decide) (fun _ => ?_) (fun h => absurd h (by decide))
  refine lv_iconst (v := 0) hx hb dX8_lineAt_29 (by decide) ?_
  exact W.zret (v := 0) hx hb hr (by decide) (fun t ht hW => ⟨⟨0, (), rfl, rfl, by rw [ht]; exact hP, va_K.moved hW.alike hK, hD⟩, hS.F ht⟩) hS.2.2 dX8_lineAt_30
set_option maxHeartbeats 4000000 in
set_option maxRecDepth 100000 in
/-- c_Tree_refuse -/
theorem c_Tree_refuse (l : Launch) (dC : Nat → ClassId) (dI : Nat → Nat → Nat) (h0 sz : Nat) (fr ft : List Value) (qt qk qi qs : Nat) (ck ci cs : ClassId) (fk fi fz : Nat → Int32) : Met l yX8_refuse (.code yX8_refuse cX8_refuse 1 (some .int) :: wP) ({ frames := 0, cells := 0, slots := 0, locals := 0 }) (va_Pc [.ref h0] (fun U => U.heap.size = sz ∧ kJ 17 [(11, .int 0), (12, .ref qt), (14, .int 0)] fr ∧ kJ 19 [(2, .ref qk), (4, .ref qi), (5, .ref qs)] ft ∧ fk 0 = 0 ∧ fi 0 = 1 ∧ fz 0 = -1 ∧ va_P (dC, dI) vwCl [(h0, .inr (8, fr)), (qt, .inr (7, ft)), (qk, .inl (ck, 6010, .inl fk)), (qi, .inl (ci, 6010, .inl fi)), (qs, .inl (cs, 6010, .inl fz))] U.heap ∧ va_K (dC, dI) vwCl [(ck, .int), (ci, .int), (cs, .int)] U ∧ va_D (fun _ => True) [(h0, .inr (8, fr)), (qt, .inr (7, ft)), (qk, .inl (ck, 6010, .inl fk)), (qi, .inl (ci, 6010, .inl fi)), (qs, .inl (cs, 6010, .inl fz))])) (va_Qi (fun (r : Int32) (fr : List Value) => r = 0 ∧ kJ 17 [(11, .int 18), (12, .ref qt), (14, .int 0)] fr) (fun (u : List Value) (t : State) => match u with | fr' => va_P (dC, dI) vwCl [(h0, .inr (8, fr')), (qt, .inr (7, ft)), (qk, .inl (ck, 6010, .inl fk)), (qi, .inl (ci, 6010, .inl fi)), (qs, .inl (cs, 6010, .inl fz))] t.heap ∧ va_K (dC, dI) vwCl [(ck, .int), (ci, .int), (cs, .int)] t ∧ va_D (va_A [(h0, .inr (8, fr)), (qt, .inr (7, ft)), (qk, .inl (ck, 6010, .inl fk)), (qi, .inl (ci, 6010, .inl fi)), (qs, .inl (cs, 6010, .inl fz))] sz) [(h0, .inr (8, fr')), (qt, .inr (7, ft)), (qk, .inl (ck, 6010, .inl fk)), (qi, .inl (ci, 6010, .inl fi)), (qs, .inl (cs, 6010, .inl fz))]) (va_A [(h0, .inr (8, fr)), (qt, .inr (7, ft)), (qk, .inl (ck, 6010, .inl fk)), (qi, .inl (ci, 6010, .inl fi)), (qs, .inl (cs, 6010, .inl fz))] sz)) 0 0 (va_A [(h0, .inr (8, fr)), (qt, .inr (7, ft)), (qk, .inl (ck, 6010, .inl fk)), (qi, .inl (ci, 6010, .inl fi)), (qs, .inl (cs, 6010, .inl fz))] sz) := by
  refine Met.ofW (cc := cX8_refuse) (maxL := 1) (ret := (some .int)) (by decide) rfl ?_
  intro p e s m args below meth c s₁ B hml hv
  obtain ⟨rfl, hsz, hR, hT, hk0, hi0, hz0, hP, hK, hD0⟩ := hv
  have hx := B.exec
  have hb := B.bytes
  have hr := B.returns
  have hts := atoms_spec (ws := .code yX8_refuse cX8_refuse 1 (some .int) :: wP) B.pre
  have hown : s.vm.findClass RX8 = some m.cls := findClass_of_methodNamed B.named
  subst hsz
  have hD := hD0.self (sz := s.heap.size)
  generalize hAe : va_A [(h0, .inr (8, fr)), (qt, .inr (7, ft)), (qk, .inl (ck, 6010, .inl fk)), (qi, .inl (ci, 6010, .inl fi)), (qs, .inl (cs, 6010, .inl fz))] s.heap.size = A at hD ⊢
  have hA : ∀ q : Nat, s.heap.size ≤ q → A q := fun q h => by rw [← hAe]; exact Or.inr h
  have hS : va_S A s.heap s.heap [] := va_S.rf
  have hl := lv_entry ([.ref h0]) (n := 1) (Nat.le_of_ble_eq_true rfl)
  rw [lg_entry_eq]
  generalize (lg_sl ([.ref h0]) ++ List.replicate (1 - (lg_sl ([.ref h0])).length) Slot.unset).toArray = ls at hl ⊢
  obtain ⟨H, hHe⟩ : ∃ H, H = s.heap := ⟨_, rfl⟩
  rw [← hHe] at hP ⊢
  have hS : va_S A s.heap H [] := by rw [hHe]; exact hS
  have hl : lv_has ls 1 [(0, .ref h0)] := hl
  refine lv_aload_n hx hb dX8_refuse_0 rfl (lv_at hl 0 rfl) ?_
  refine va_get (D := (dC, dI)) (ci := 8) (v := .int 0) (C := RX8) (T := TX8) (N := 17) hx hb hts iX8 hown hK hP 0 rfl rfl 11 (by decide) (hts _ (bP 520 rfl)) (fun _ h9 => h9) (kJ_at hR 0 rfl) dX8_refuse_1 ?_
  refine lv_if_ne (tgt := 48) hx hb dX8_refuse_4 (by decide) (fun h => absurd h (by decide)) (fun _ => ?_)
  refine lv_aload_n hx hb dX8_refuse_7 rfl (lv_at hl 0 rfl) ?_
  refine lv_aload_n hx hb dX8_refuse_8 rfl (lv_at hl 0 rfl) ?_
  refine va_get (D := (dC, dI)) (ci := 8) (v := .ref qt) (C := RX8) (T := TX8) (N := 17) hx hb hts iX8 hown hK hP 0 rfl rfl 12 (by decide) (hts _ (bP 290 rfl)) (fun _ h9 => h9) (kJ_at hR 1 rfl) dX8_refuse_9 ?_
  refine va_get (D := (dC, dI)) (ci := 7) (v := .ref qi) (C := RX7) (T := TX7) (N := 19) hx hb hts iX7 hown hK hP 1 rfl rfl 4 (by decide) (hts _ (bP 524 rfl)) (fun _ h9 => h9) (kJ_at hT 1 rfl) dX8_refuse_12 ?_
  refine lv_aload_n hx hb dX8_refuse_15 rfl (lv_at hl 0 rfl) ?_
  refine va_get (D := (dC, dI)) (ci := 8) (v := .int 0) (C := RX8) (T := TX8) (N := 17) hx hb hts iX8 hown hK hP 0 rfl rfl 14 (by decide) (hts _ (bP 522 rfl)) (fun _ h9 => h9) (kJ_at hR 2 rfl) dX8_refuse_16 ?_
  refine va_iald hx hb hK hP 3 1 rfl rfl (by unfold vp_in; decide) dX8_refuse_19 ?_
  refine k_i (v := 1) (by rw [sb_cl0]; exact hi0) ?_
  refine lv_bipush (v := 16) hx hb dX8_refuse_20 (by decide) ?_
  refine lv_imul hx hb dX8_refuse_22 ?_
  refine k_i (v := 16) (by decide) ?_
  refine lv_aload_n hx hb dX8_refuse_23 rfl (lv_at hl 0 rfl) ?_
  refine va_get (D := (dC, dI)) (ci := 8) (v := .ref qt) (C := RX8) (T := TX8) (N := 17) hx hb hts iX8 hown hK hP 0 rfl rfl 12 (by decide) (hts _ (bP 290 rfl)) (fun _ h9 => h9) (kJ_at hR 1 rfl) dX8_refuse_24 ?_
  refine va_get (D := (dC, dI)) (ci := 7) (v := .ref qk) (C := RX7) (T := TX7) (N := 19) hx hb hts iX7 hown hK hP 1 rfl rfl 2 (by decide) (hts _ (bP 525 rfl)) (fun _ h9 => h9) (kJ_at hT 0 rfl) dX8_refuse_27 ?_
  refine lv_aload_n hx hb dX8_refuse_30 rfl (lv_at hl 0 rfl) ?_
  refine va_get (D := (dC, dI)) (ci := 8) (v := .int 0) (C := RX8) (T := TX8) (N := 17) hx hb hts iX8 hown hK hP 0 rfl rfl 14 (by decide) (hts _ (bP 522 rfl)) (fun _ h9 => h9) (kJ_at hR 2 rfl) dX8_refuse_31 ?_
  refine va_iald hx hb hK hP 2 0 rfl rfl (by unfold vp_in; decide) dX8_refuse_34 ?_
  refine k_i (v := 0) (by rw [sb_cl0]; exact hk0) ?_
  refine lv_iconst (v := 2) hx hb dX8_refuse_35 (by decide) ?_
  refine lv_icmp_ne (tgt := 43) hx hb dX8_refuse_36 (by decide) (fun _ => ?_) (fun h => absurd h (by decide))
  refine lv_iconst (v := 2) hx hb dX8_refuse_43 (by decide) ?_
  refine lv_iadd hx hb dX8_refuse_44 ?_
  refine k_i (v := 18) (by decide) ?_
  refine kq_put [(11, .int 18), (12, .ref qt), (14, .int 0)] hts iX8 tyX8 tyX8_ok nmX8 hx hb hown hK hP hD hS 0 rfl rfl hR 11 (by decide) (by decide) (hts _ (bP 520 rfl)) rfl (ty := .int) (by decide +kernel) (v := .int 18) rfl rfl dX8_refuse_45 (fun f h => kJ_put h _ _ (by decide)) (fun H locs fr hR hP hD hS => ?_)
  have hP : va_P (dC, dI) vwCl [(h0, .inr (8, fr)), (qt, .inr (7, ft)), (qk, .inl (ck, 6010, .inl fk)), (qi, .inl (ci, 6010, .inl fi)), (qs, .inl (cs, 6010, .inl fz))] H := hP
  have hD : va_D A [(h0, .inr (8, fr)), (qt, .inr (7, ft)), (qk, .inl (ck, 6010, .inl fk)), (qi, .inl (ci, 6010, .inl fi)), (qs, .inl (cs, 6010, .inl fz))] := hD
  refine lv_iconst (v := 0) hx hb dX8_refuse_48 (by decide) ?_
  exact W.iret (v := 0) hx hb hr (fun t ht hW => ⟨⟨0, fr, rfl, ⟨rfl, kJ_sub hR (by simp)⟩, by rw [ht]; exact hP, va_K.moved hW.alike hK, hD⟩, hS.F ht⟩) hS.2.2 dX8_refuse_49
set_option maxHeartbeats 4000000 in
set_option maxRecDepth 100000 in
/-- c_Tree_refuse -/
theorem c_Tree_refuse18 (l : Launch) (dC : Nat → ClassId) (dI : Nat → Nat → Nat) (h0 sz : Nat) (fr : List Value) : Met l yX8_refuse (.code yX8_refuse cX8_refuse 1 (some .int) :: wP) ({ frames := 0, cells := 0, slots := 0, locals := 0 }) (va_Pc [.ref h0] (fun U => U.heap.size = sz ∧ kJ 17 [(11, .int 18)] fr ∧ va_P (dC, dI) vwCl [(h0, .inr (8, fr))] U.heap ∧ va_K (dC, dI) vwCl [] U ∧ va_D (fun _ => True) [(h0, .inr (8, fr))])) (va_Qi (fun (_ : Int32) (_ : Unit) => True) (fun (u : Unit) (t : State) => match u with | _ => va_P (dC, dI) vwCl [(h0, .inr (8, fr))] t.heap ∧ va_K (dC, dI) vwCl [] t ∧ va_D (va_A [(h0, .inr (8, fr))] sz) [(h0, .inr (8, fr))]) (va_A [(h0, .inr (8, fr))] sz)) 0 0 (va_A [(h0, .inr (8, fr))] sz) := by
  refine Met.ofW (cc := cX8_refuse) (maxL := 1) (ret := (some .int)) (by decide) rfl ?_
  intro p e s m args below meth c s₁ B hml hv
  obtain ⟨rfl, hsz, hR, hP, hK, hD0⟩ := hv
  have hx := B.exec
  have hb := B.bytes
  have hr := B.returns
  have hts := atoms_spec (ws := .code yX8_refuse cX8_refuse 1 (some .int) :: wP) B.pre
  have hown : s.vm.findClass RX8 = some m.cls := findClass_of_methodNamed B.named
  subst hsz
  have hD := hD0.self (sz := s.heap.size)
  generalize hAe : va_A [(h0, .inr (8, fr))] s.heap.size = A at hD ⊢
  have hA : ∀ q : Nat, s.heap.size ≤ q → A q := fun q h => by rw [← hAe]; exact Or.inr h
  have hS : va_S A s.heap s.heap [] := va_S.rf
  have hl := lv_entry ([.ref h0]) (n := 1) (Nat.le_of_ble_eq_true rfl)
  rw [lg_entry_eq]
  generalize (lg_sl ([.ref h0]) ++ List.replicate (1 - (lg_sl ([.ref h0])).length) Slot.unset).toArray = ls at hl ⊢
  obtain ⟨H, hHe⟩ : ∃ H, H = s.heap := ⟨_, rfl⟩
  rw [← hHe] at hP ⊢
  have hS : va_S A s.heap H [] := by rw [hHe]; exact hS
  have hl : lv_has ls 1 [(0, .ref h0)] := hl
  refine lv_aload_n hx hb dX8_refuse_0 rfl (lv_at hl 0 rfl) ?_
  refine va_get (D := (dC, dI)) (ci := 8) (v := .int 18) (C := RX8) (T := TX8) (N := 17) hx hb hts iX8 hown hK hP 0 rfl rfl 11 (by decide) (hts _ (bP 520 rfl)) (fun _ h9 => h9) (kJ_at hR 0 rfl) dX8_refuse_1 ?_
  refine lv_if_ne (tgt := 48) hx hb dX8_refuse_4 (by decide) (fun _ => ?_) (fun h => absurd h (by decide))
  refine lv_iconst (v := 0) hx hb dX8_refuse_48 (by decide) ?_
  exact W.iret (v := 0) hx hb hr (fun t ht hW => ⟨⟨0, (), rfl, trivial, by rw [ht]; exact hP, va_K.moved hW.alike hK, hD⟩, hS.F ht⟩) hS.2.2 dX8_refuse_49
set_option maxHeartbeats 4000000 in
set_option maxRecDepth 100000 in
/-- c_Tree_is -/
theorem c_Tree_is (l : Launch) (dC : Nat → ClassId) (dI : Nat → Nat → Nat) (h0 sz : Nat) (fr : List Value) : Met l yX8_is (.code yX8_is cX8_is 2 (some .boolean) :: wP) ({ frames := 0, cells := 0, slots := 0, locals := 0 }) (va_Pc [.ref h0, .int 0] (fun U => U.heap.size = sz ∧ kJ 17 [(11, .int 18)] fr ∧ va_P (dC, dI) vwCl [(h0, .inr (8, fr))] U.heap ∧ va_K (dC, dI) vwCl [] U ∧ va_D (fun _ => True) [(h0, .inr (8, fr))])) (va_Qi (fun (r : Int32) (_ : Unit) => r = 0) (fun (u : Unit) (t : State) => match u with | _ => va_P (dC, dI) vwCl [(h0, .inr (8, fr))] t.heap ∧ va_K (dC, dI) vwCl [] t ∧ va_D (va_A [(h0, .inr (8, fr))] sz) [(h0, .inr (8, fr))]) (va_A [(h0, .inr (8, fr))] sz)) 0 0 (va_A [(h0, .inr (8, fr))] sz) := by
  refine Met.ofW (cc := cX8_is) (maxL := 2) (ret := (some .boolean)) (by decide) rfl ?_
  intro p e s m args below meth c s₁ B hml hv
  obtain ⟨rfl, hsz, hR, hP, hK, hD0⟩ := hv
  have hx := B.exec
  have hb := B.bytes
  have hr := B.returns
  have hts := atoms_spec (ws := .code yX8_is cX8_is 2 (some .boolean) :: wP) B.pre
  have hown : s.vm.findClass RX8 = some m.cls := findClass_of_methodNamed B.named
  subst hsz
  have hD := hD0.self (sz := s.heap.size)
  generalize hAe : va_A [(h0, .inr (8, fr))] s.heap.size = A at hD ⊢
  have hA : ∀ q : Nat, s.heap.size ≤ q → A q := fun q h => by rw [← hAe]; exact Or.inr h
  have hS : va_S A s.heap s.heap [] := va_S.rf
  have hl := lv_entry ([.ref h0, .int 0]) (n := 2) (Nat.le_of_ble_eq_true rfl)
  rw [lg_entry_eq]
  generalize (lg_sl ([.ref h0, .int 0]) ++ List.replicate (2 - (lg_sl ([.ref h0, .int 0])).length) Slot.unset).toArray = ls at hl ⊢
  obtain ⟨H, hHe⟩ : ∃ H, H = s.heap := ⟨_, rfl⟩
  rw [← hHe] at hP ⊢
  have hS : va_S A s.heap H [] := by rw [hHe]; exact hS
  have hl : lv_has ls 2 [(0, .ref h0), (1, .int 0)] := hl
  refine lv_aload_n hx hb dX8_is_0 rfl (lv_at hl 0 rfl) ?_
  refine va_get (D := (dC, dI)) (ci := 8) (v := .int 18) (C := RX8) (T := TX8) (N := 17) hx hb hts iX8 hown hK hP 0 rfl rfl 11 (by decide) (hts _ (bP 520 rfl)) (fun _ h9 => h9) (kJ_at hR 0 rfl) dX8_is_1 ?_
  refine lv_if_ne (tgt := 27) hx hb dX8_is_4 (by decide) (fun _ => ?_) (fun h => absurd h (by decide))
  refine lv_iconst (v := 0) hx hb dX8_is_27 (by decide) ?_
  exact W.zret (v := 0) hx hb hr (by decide) (fun t ht hW => ⟨⟨0, (), rfl, rfl, by rw [ht]; exact hP, va_K.moved hW.alike hK, hD⟩, hS.F ht⟩) hS.2.2 dX8_is_28
set_option maxHeartbeats 4000000 in
set_option maxRecDepth 100000 in
/-- c_Tree_block -/
theorem c_Tree_block (l : Launch) (dC : Nat → ClassId) (dI : Nat → Nat → Nat) (h0 sz : Nat) (fr ft : List Value) (qt qk qi qs : Nat) (ck ci cs : ClassId) (fk fi fz : Nat → Int32) : Met l yX8_block (.code yX8_block cX8_block 3 (some .int) :: wP) ({ frames := 1, cells := 0, slots := 0, locals := 22 }) (va_Pc [.ref h0, .int 0] (fun U => U.heap.size = sz ∧ kJ 17 [(11, .int 0), (12, .ref qt), (14, .int 0)] fr ∧ kJ 19 [(2, .ref qk), (4, .ref qi), (5, .ref qs)] ft ∧ fk 0 = 0 ∧ fi 0 = 1 ∧ fz 0 = -1 ∧ va_P (dC, dI) vwCl [(h0, .inr (8, fr)), (qt, .inr (7, ft)), (qk, .inl (ck, 6010, .inl fk)), (qi, .inl (ci, 6010, .inl fi)), (qs, .inl (cs, 6010, .inl fz))] U.heap ∧ va_K (dC, dI) vwCl [(ck, .int), (ci, .int), (cs, .int)] U ∧ va_D (fun _ => True) [(h0, .inr (8, fr)), (qt, .inr (7, ft)), (qk, .inl (ck, 6010, .inl fk)), (qi, .inl (ci, 6010, .inl fi)), (qs, .inl (cs, 6010, .inl fz))])) (va_Qi (fun (r : Int32) (fr : List Value) => r = 0 ∧ kJ 17 [(11, .int 18), (12, .ref qt), (14, .int 0)] fr) (fun (u : List Value) (t : State) => match u with | fr' => va_P (dC, dI) vwCl [(h0, .inr (8, fr')), (qt, .inr (7, ft)), (qk, .inl (ck, 6010, .inl fk)), (qi, .inl (ci, 6010, .inl fi)), (qs, .inl (cs, 6010, .inl fz))] t.heap ∧ va_K (dC, dI) vwCl [(ck, .int), (ci, .int), (cs, .int)] t ∧ va_D (va_A [(h0, .inr (8, fr)), (qt, .inr (7, ft)), (qk, .inl (ck, 6010, .inl fk)), (qi, .inl (ci, 6010, .inl fi)), (qs, .inl (cs, 6010, .inl fz))] sz) [(h0, .inr (8, fr')), (qt, .inr (7, ft)), (qk, .inl (ck, 6010, .inl fk)), (qi, .inl (ci, 6010, .inl fi)), (qs, .inl (cs, 6010, .inl fz))]) (va_A [(h0, .inr (8, fr)), (qt, .inr (7, ft)), (qk, .inl (ck, 6010, .inl fk)), (qi, .inl (ci, 6010, .inl fi)), (qs, .inl (cs, 6010, .inl fz))] sz)) 0 0 (va_A [(h0, .inr (8, fr)), (qt, .inr (7, ft)), (qk, .inl (ck, 6010, .inl fk)), (qi, .inl (ci, 6010, .inl fi)), (qs, .inl (cs, 6010, .inl fz))] sz) := by
  refine Met.ofW (cc := cX8_block) (maxL := 3) (ret := (some .int)) (by decide) rfl ?_
  intro p e s m args below meth c s₁ B hml hv
  obtain ⟨rfl, hsz, hR, hT, hk0, hi0, hz0, hP, hK, hD0⟩ := hv
  have hx := B.exec
  have hb := B.bytes
  have hr := B.returns
  have hts := atoms_spec (ws := .code yX8_block cX8_block 3 (some .int) :: wP) B.pre
  have hown : s.vm.findClass RX8 = some m.cls := findClass_of_methodNamed B.named
  subst hsz
  have hD := hD0.self (sz := s.heap.size)
  generalize hAe : va_A [(h0, .inr (8, fr)), (qt, .inr (7, ft)), (qk, .inl (ck, 6010, .inl fk)), (qi, .inl (ci, 6010, .inl fi)), (qs, .inl (cs, 6010, .inl fz))] s.heap.size = A at hD ⊢
  have hA : ∀ q : Nat, s.heap.size ≤ q → A q := fun q h => by rw [← hAe]; exact Or.inr h
  have hS : va_S A s.heap s.heap [] := va_S.rf
  have hl := lv_entry ([.ref h0, .int 0]) (n := 3) (Nat.le_of_ble_eq_true rfl)
  rw [lg_entry_eq]
  generalize (lg_sl ([.ref h0, .int 0]) ++ List.replicate (3 - (lg_sl ([.ref h0, .int 0])).length) Slot.unset).toArray = ls at hl ⊢
  obtain ⟨H, hHe⟩ : ∃ H, H = s.heap := ⟨_, rfl⟩
  rw [← hHe] at hP ⊢
  have hS : va_S A s.heap H [] := by rw [hHe]; exact hS
  have hl : lv_has ls 3 [(0, .ref h0), (1, .int 0)] := hl
  refine lv_aload_n hx hb dX8_block_0 rfl (lv_at hl 0 rfl) ?_
  refine lv_iload_n hx hb dX8_block_1 rfl (lv_at hl 1 rfl) ?_
  have hPc := hP.sub (ws' := [(h0, .inr (8, fr)), (qt, .inr (7, ft)), (qk, .inl (ck, 6010, .inl fk)), (qi, .inl (ci, 6010, .inl fi)), (qs, .inl (cs, 6010, .inl fz))]) [0, 1, 2, 3, 4] rfl
  have hDc := hD.sub (ws' := [(h0, .inr (8, fr)), (qt, .inr (7, ft)), (qk, .inl (ck, 6010, .inl fk)), (qi, .inl (ci, 6010, .inl fi)), (qs, .inl (cs, 6010, .inl fz))]) [0, 1, 2, 3, 4] (by decide) rfl
  have hKc := hK.sub (tys' := [(ck, .int), (ci, .int), (cs, .int)]) [0, 1, 2] rfl
  have hFc := va_free (wc := [(h0, .inr (8, fr)), (qt, .inr (7, ft)), (qk, .inl (ck, 6010, .inl fk)), (qi, .inl (ci, 6010, .inl fi)), (qs, .inl (cs, 6010, .inl fz))]) hD hS hA [0, 1, 2, 3, 4] rfl
  refine va_calli (va_runV (As := [.int 0]) (rest := []) ⟨hx, hb, hml, hown, hts⟩ (c_Tree_lineAt l dC dI h0 H.size fr ft qt qk qi qs ck ci cs fk fi fz) (cwV 1 hts (gV (y := yX8_lineAt) _ 528 529 530 348 519 rfl rfl rfl rfl rfl) rfl rfl rfl (by decide +kernel) ⟨Nat.le_of_ble_eq_true rfl, Nat.le_of_ble_eq_true rfl⟩) ⟨fun a U g mk q => by obtain ⟨q0, q1, qJ, a1, a2, a3, a4, qP, qK, qD⟩ := q; exact ⟨q0, q1, qJ, a1, a2, a3, a4, qP, va_K.moved (u := U) (U := U.calling g mk a) (Vm.Alike.refl U.vm) qK, qD⟩, va_recv hKc hPc (ci := 8) (q0 := 0) rfl rfl, fun U hU hW => ⟨rfl, by rw [hU], hR, hT, hk0, hi0, hz0, by rw [hU]; exact hPc, va_K.moved hW.alike hKc, hDc.weaken (fun _ _ _ _ => trivial)⟩⟩ rfl rfl hl.1 rfl (lv_room (Nat.le_of_ble_eq_true rfl)) dX8_block_2 ⟨Nat.le_of_ble_eq_true rfl, Nat.le_of_ble_eq_true rfl⟩) hS (fun q _ h => hFc q h) hFc (fun r u t H1 locs ht hvm hw hB hz1 hk1 hS => ?_)
  subst hw
  obtain ⟨hP1, hK1, hD1⟩ := hB
  rw [ht] at hP1
  have hK1 := va_K.moved hvm.symm hK1
  obtain ⟨hP, hD⟩ := va_join (wr := []) (w1 := [(h0, .inr (8, fr)), (qt, .inr (7, ft)), (qk, .inl (ck, 6010, .inl fk)), (qi, .inl (ci, 6010, .inl fi)), (qs, .inl (cs, 6010, .inl fz))]) hP hD [0, 1, 2, 3, 4] [] rfl rfl (by decide) (by decide) hk1 hFc hP1 hD1
  have hK := (hK.sub (tys' := []) [] rfl).app hK1
  clear hPc hDc hKc hFc hP1 hK1 hD1 hk1 hz1
  generalize H1 = H at hP hS ⊢
  have hP : va_P (dC, dI) vwCl [(h0, .inr (8, fr)), (qt, .inr (7, ft)), (qk, .inl (ck, 6010, .inl fk)), (qi, .inl (ci, 6010, .inl fi)), (qs, .inl (cs, 6010, .inl fz))] H := hP
  have hD : va_D A [(h0, .inr (8, fr)), (qt, .inr (7, ft)), (qk, .inl (ck, 6010, .inl fk)), (qi, .inl (ci, 6010, .inl fi)), (qs, .inl (cs, 6010, .inl fz))] := hD
  have hK : va_K (dC, dI) vwCl [(ck, .int), (ci, .int), (cs, .int)] s := hK
  refine lv_if_eq (tgt := 22) hx hb dX8_block_5 (by decide) (fun _ => ?_) (fun h => absurd h (by decide))
  refine lv_aload_n hx hb dX8_block_22 rfl (lv_at hl 0 rfl) ?_
  have hPc := hP.sub (ws' := [(h0, .inr (8, fr)), (qt, .inr (7, ft)), (qk, .inl (ck, 6010, .inl fk)), (qi, .inl (ci, 6010, .inl fi)), (qs, .inl (cs, 6010, .inl fz))]) [0, 1, 2, 3, 4] rfl
  have hDc := hD.sub (ws' := [(h0, .inr (8, fr)), (qt, .inr (7, ft)), (qk, .inl (ck, 6010, .inl fk)), (qi, .inl (ci, 6010, .inl fi)), (qs, .inl (cs, 6010, .inl fz))]) [0, 1, 2, 3, 4] (by decide) rfl
  have hKc := hK.sub (tys' := [(ck, .int), (ci, .int), (cs, .int)]) [0, 1, 2] rfl
  have hFc := va_free (wc := [(h0, .inr (8, fr)), (qt, .inr (7, ft)), (qk, .inl (ck, 6010, .inl fk)), (qi, .inl (ci, 6010, .inl fi)), (qs, .inl (cs, 6010, .inl fz))]) hD hS hA [0, 1, 2, 3, 4] rfl
  refine va_calli (va_runV (As := []) (rest := []) ⟨hx, hb, hml, hown, hts⟩ (c_Tree_refuse l dC dI h0 H.size fr ft qt qk qi qs ck ci cs fk fi fz) (cwV 0 hts (gV (y := yX8_refuse) _ 531 532 533 348 523 rfl rfl rfl rfl rfl) rfl rfl rfl (by decide +kernel) ⟨Nat.le_of_ble_eq_true rfl, Nat.le_of_ble_eq_true rfl⟩) ⟨fun a U g mk q => by obtain ⟨q0, q1, qJ, a1, a2, a3, a4, qP, qK, qD⟩ := q; exact ⟨q0, q1, qJ, a1, a2, a3, a4, qP, va_K.moved (u := U) (U := U.calling g mk a) (Vm.Alike.refl U.vm) qK, qD⟩, va_recv hKc hPc (ci := 8) (q0 := 0) rfl rfl, fun U hU hW => ⟨rfl, by rw [hU], hR, hT, hk0, hi0, hz0, by rw [hU]; exact hPc, va_K.moved hW.alike hKc, hDc.weaken (fun _ _ _ _ => trivial)⟩⟩ rfl rfl hl.1 rfl (lv_room (Nat.le_of_ble_eq_true rfl)) dX8_block_23 ⟨Nat.le_of_ble_eq_true rfl, Nat.le_of_ble_eq_true rfl⟩) hS (fun q _ h => hFc q h) hFc (fun r u t H1 locs ht hvm hw hB hz1 hk1 hS => ?_)
  obtain ⟨hw, hR⟩ := hw
  subst hw
  obtain ⟨hP1, hK1, hD1⟩ := hB
  rw [ht] at hP1
  have hK1 := va_K.moved hvm.symm hK1
  obtain ⟨hP, hD⟩ := va_join (wr := []) (w1 := [(h0, .inr (8, u)), (qt, .inr (7, ft)), (qk, .inl (ck, 6010, .inl fk)), (qi, .inl (ci, 6010, .inl fi)), (qs, .inl (cs, 6010, .inl fz))]) hP hD [0, 1, 2, 3, 4] [] rfl rfl (by decide) (by decide) hk1 hFc hP1 hD1
  have hK := (hK.sub (tys' := []) [] rfl).app hK1
  clear hPc hDc hKc hFc hP1 hK1 hD1 hk1 hz1
  generalize H1 = H at hP hS ⊢
  have hP : va_P (dC, dI) vwCl [(h0, .inr (8, u)), (qt, .inr (7, ft)), (qk, .inl (ck, 6010, .inl fk)), (qi, .inl (ci, 6010, .inl fi)), (qs, .inl (cs, 6010, .inl fz))] H := hP
  have hD : va_D A [(h0, .inr (8, u)), (qt, .inr (7, ft)), (qk, .inl (ck, 6010, .inl fk)), (qi, .inl (ci, 6010, .inl fi)), (qs, .inl (cs, 6010, .inl fz))] := hD
  have hK : va_K (dC, dI) vwCl [(ck, .int), (ci, .int), (cs, .int)] s := hK
  exact W.iret (v := 0) hx hb hr (fun t ht hW => ⟨⟨0, u, rfl, ⟨rfl, hR⟩, by rw [ht]; exact hP, va_K.moved hW.alike hK, hD⟩, hS.F ht⟩) hS.2.2 dX8_block_26
set_option maxHeartbeats 4000000 in
set_option maxRecDepth 100000 in
/-- c_Tree_grow -/
theorem c_Tree_grow (l : Launch) (dC : Nat → ClassId) (dI : Nat → Nat → Nat) (h0 sz : Nat) (fr ft : List Value) (qt qk qi qs : Nat) (ck ci cs : ClassId) (fk fi fz : Nat → Int32) : Met l yX8_grow (.code yX8_grow cX8_grow 1 none :: wP) ({ frames := 2, cells := 0, slots := 0, locals := 44 }) (va_Pc [.ref h0] (fun U => U.heap.size = sz ∧ kJ 17 [(12, .ref qt)] fr ∧ kJ 19 [(2, .ref qk), (4, .ref qi), (5, .ref qs)] ft ∧ fk 0 = 0 ∧ fi 0 = 1 ∧ fz 0 = -1 ∧ va_P (dC, dI) vwCl [(h0, .inr (8, fr)), (qt, .inr (7, ft)), (qk, .inl (ck, 6010, .inl fk)), (qi, .inl (ci, 6010, .inl fi)), (qs, .inl (cs, 6010, .inl fz))] U.heap ∧ va_K (dC, dI) vwCl [(ck, .int), (ci, .int), (cs, .int)] U ∧ va_D (fun _ => True) [(h0, .inr (8, fr)), (qt, .inr (7, ft)), (qk, .inl (ck, 6010, .inl fk)), (qi, .inl (ci, 6010, .inl fi)), (qs, .inl (cs, 6010, .inl fz))])) (va_Qv (fun (fr : List Value) => kJ 17 [(11, .int 18)] fr) (fun (u : List Value) (t : State) => match u with | fr' => va_P (dC, dI) vwCl [(h0, .inr (8, fr'))] t.heap ∧ va_K (dC, dI) vwCl [] t ∧ va_D (va_A [(h0, .inr (8, fr)), (qt, .inr (7, ft)), (qk, .inl (ck, 6010, .inl fk)), (qi, .inl (ci, 6010, .inl fi)), (qs, .inl (cs, 6010, .inl fz))] sz) [(h0, .inr (8, fr'))]) (va_A [(h0, .inr (8, fr)), (qt, .inr (7, ft)), (qk, .inl (ck, 6010, .inl fk)), (qi, .inl (ci, 6010, .inl fi)), (qs, .inl (cs, 6010, .inl fz))] sz)) 0 0 (va_A [(h0, .inr (8, fr)), (qt, .inr (7, ft)), (qk, .inl (ck, 6010, .inl fk)), (qi, .inl (ci, 6010, .inl fi)), (qs, .inl (cs, 6010, .inl fz))] sz) := by
  refine Met.ofW (cc := cX8_grow) (maxL := 1) (ret := none) (by decide) rfl ?_
  intro p e s m args below meth c s₁ B hml hv
  obtain ⟨rfl, hsz, hR, hT, hk0, hi0, hz0, hP, hK, hD0⟩ := hv
  have hx := B.exec
  have hb := B.bytes
  have hr := B.returns
  have hts := atoms_spec (ws := .code yX8_grow cX8_grow 1 none :: wP) B.pre
  have hown : s.vm.findClass RX8 = some m.cls := findClass_of_methodNamed B.named
  subst hsz
  have hD := hD0.self (sz := s.heap.size)
  generalize hAe : va_A [(h0, .inr (8, fr)), (qt, .inr (7, ft)), (qk, .inl (ck, 6010, .inl fk)), (qi, .inl (ci, 6010, .inl fi)), (qs, .inl (cs, 6010, .inl fz))] s.heap.size = A at hD ⊢
  have hA : ∀ q : Nat, s.heap.size ≤ q → A q := fun q h => by rw [← hAe]; exact Or.inr h
  have hS : va_S A s.heap s.heap [] := va_S.rf
  have hl := lv_entry ([.ref h0]) (n := 1) (Nat.le_of_ble_eq_true rfl)
  rw [lg_entry_eq]
  generalize (lg_sl ([.ref h0]) ++ List.replicate (1 - (lg_sl ([.ref h0])).length) Slot.unset).toArray = ls at hl ⊢
  obtain ⟨H, hHe⟩ : ∃ H, H = s.heap := ⟨_, rfl⟩
  rw [← hHe] at hP ⊢
  have hS : va_S A s.heap H [] := by rw [hHe]; exact hS
  have hl : lv_has ls 1 [(0, .ref h0)] := hl
  refine lv_aload_n hx hb dX8_grow_0 rfl (lv_at hl 0 rfl) ?_
  refine lv_iconst (v := 0) hx hb dX8_grow_1 (by decide) ?_
  refine kq_put [(11, .int 0), (12, .ref qt)] hts iX8 tyX8 tyX8_ok nmX8 hx hb hown hK hP hD hS 0 rfl rfl hR 11 (by decide) (by decide) (hts _ (bP 520 rfl)) rfl (ty := .int) (by decide +kernel) (v := .int 0) rfl rfl dX8_grow_2 (fun f h => kJ_put h _ _ (by decide)) (fun H locs fr hR hP hD hS => ?_)
  have hP : va_P (dC, dI) vwCl [(h0, .inr (8, fr)), (qt, .inr (7, ft)), (qk, .inl (ck, 6010, .inl fk)), (qi, .inl (ci, 6010, .inl fi)), (qs, .inl (cs, 6010, .inl fz))] H := hP
  have hD : va_D A [(h0, .inr (8, fr)), (qt, .inr (7, ft)), (qk, .inl (ck, 6010, .inl fk)), (qi, .inl (ci, 6010, .inl fi)), (qs, .inl (cs, 6010, .inl fz))] := hD
  refine lv_aload_n hx hb dX8_grow_5 rfl (lv_at hl 0 rfl) ?_
  refine lv_iconst (v := 1) hx hb dX8_grow_6 (by decide) ?_
  refine kq_put [(13, .int 1), (11, .int 0), (12, .ref qt)] hts iX8 tyX8 tyX8_ok nmX8 hx hb hown hK hP hD hS 0 rfl rfl hR 13 (by decide) (by decide) (hts _ (bP 535 rfl)) rfl (ty := .int) (by decide +kernel) (v := .int 1) rfl rfl dX8_grow_7 (fun f h => kJ_put h _ _ (by decide)) (fun H locs fr hR hP hD hS => ?_)
  have hP : va_P (dC, dI) vwCl [(h0, .inr (8, fr)), (qt, .inr (7, ft)), (qk, .inl (ck, 6010, .inl fk)), (qi, .inl (ci, 6010, .inl fi)), (qs, .inl (cs, 6010, .inl fz))] H := hP
  have hD : va_D A [(h0, .inr (8, fr)), (qt, .inr (7, ft)), (qk, .inl (ck, 6010, .inl fk)), (qi, .inl (ci, 6010, .inl fi)), (qs, .inl (cs, 6010, .inl fz))] := hD
  refine lv_aload_n hx hb dX8_grow_10 rfl (lv_at hl 0 rfl) ?_
  refine lv_iconst (v := 0) hx hb dX8_grow_11 (by decide) ?_
  refine kq_put [(14, .int 0), (13, .int 1), (11, .int 0), (12, .ref qt)] hts iX8 tyX8 tyX8_ok nmX8 hx hb hown hK hP hD hS 0 rfl rfl hR 14 (by decide) (by decide) (hts _ (bP 522 rfl)) rfl (ty := .int) (by decide +kernel) (v := .int 0) rfl rfl dX8_grow_12 (fun f h => kJ_put h _ _ (by decide)) (fun H locs fr hR hP hD hS => ?_)
  have hP : va_P (dC, dI) vwCl [(h0, .inr (8, fr)), (qt, .inr (7, ft)), (qk, .inl (ck, 6010, .inl fk)), (qi, .inl (ci, 6010, .inl fi)), (qs, .inl (cs, 6010, .inl fz))] H := hP
  have hD : va_D A [(h0, .inr (8, fr)), (qt, .inr (7, ft)), (qk, .inl (ck, 6010, .inl fk)), (qi, .inl (ci, 6010, .inl fi)), (qs, .inl (cs, 6010, .inl fz))] := hD
  refine lv_aload_n hx hb dX8_grow_15 rfl (lv_at hl 0 rfl) ?_
  refine lv_iconst (v := 0) hx hb dX8_grow_16 (by decide) ?_
  refine kq_put [(15, .int 0), (14, .int 0), (13, .int 1), (11, .int 0), (12, .ref qt)] hts iX8 tyX8 tyX8_ok nmX8 hx hb hown hK hP hD hS 0 rfl rfl hR 15 (by decide) (by decide) (hts _ (bP 536 rfl)) rfl (ty := .int) (by decide +kernel) (v := .int 0) rfl rfl dX8_grow_17 (fun f h => kJ_put h _ _ (by decide)) (fun H locs fr hR hP hD hS => ?_)
  have hP : va_P (dC, dI) vwCl [(h0, .inr (8, fr)), (qt, .inr (7, ft)), (qk, .inl (ck, 6010, .inl fk)), (qi, .inl (ci, 6010, .inl fi)), (qs, .inl (cs, 6010, .inl fz))] H := hP
  have hD : va_D A [(h0, .inr (8, fr)), (qt, .inr (7, ft)), (qk, .inl (ck, 6010, .inl fk)), (qi, .inl (ci, 6010, .inl fi)), (qs, .inl (cs, 6010, .inl fz))] := hD
  refine lv_aload_n hx hb dX8_grow_20 rfl (lv_at hl 0 rfl) ?_
  refine lv_aload_n hx hb dX8_grow_21 rfl (lv_at hl 0 rfl) ?_
  refine lv_iconst (v := 0) hx hb dX8_grow_22 (by decide) ?_
  have hPc := hP.sub (ws' := [(h0, .inr (8, fr)), (qt, .inr (7, ft)), (qk, .inl (ck, 6010, .inl fk)), (qi, .inl (ci, 6010, .inl fi)), (qs, .inl (cs, 6010, .inl fz))]) [0, 1, 2, 3, 4] rfl
  have hDc := hD.sub (ws' := [(h0, .inr (8, fr)), (qt, .inr (7, ft)), (qk, .inl (ck, 6010, .inl fk)), (qi, .inl (ci, 6010, .inl fi)), (qs, .inl (cs, 6010, .inl fz))]) [0, 1, 2, 3, 4] (by decide) rfl
  have hKc := hK.sub (tys' := [(ck, .int), (ci, .int), (cs, .int)]) [0, 1, 2] rfl
  have hFc := va_free (wc := [(h0, .inr (8, fr)), (qt, .inr (7, ft)), (qk, .inl (ck, 6010, .inl fk)), (qi, .inl (ci, 6010, .inl fi)), (qs, .inl (cs, 6010, .inl fz))]) hD hS hA [0, 1, 2, 3, 4] rfl
  refine va_calli (va_runV (As := [.int 0]) (rest := [.ref h0]) ⟨hx, hb, hml, hown, hts⟩ (c_Tree_block l dC dI h0 H.size fr ft qt qk qi qs ck ci cs fk fi fz) (cwV 1 hts (gV (y := yX8_block) _ 537 538 539 348 527 rfl rfl rfl rfl rfl) rfl rfl rfl (by decide +kernel) ⟨Nat.le_of_ble_eq_true rfl, Nat.le_of_ble_eq_true rfl⟩) ⟨fun a U g mk q => by obtain ⟨q0, q1, qJ, a1, a2, a3, a4, qP, qK, qD⟩ := q; exact ⟨q0, q1, qJ, a1, a2, a3, a4, qP, va_K.moved (u := U) (U := U.calling g mk a) (Vm.Alike.refl U.vm) qK, qD⟩, va_recv hKc hPc (ci := 8) (q0 := 0) rfl rfl, fun U hU hW => ⟨rfl, by rw [hU], kJ_sub hR (by simp), hT, hk0, hi0, hz0, by rw [hU]; exact hPc, va_K.moved hW.alike hKc, hDc.weaken (fun _ _ _ _ => trivial)⟩⟩ rfl rfl hl.1 rfl (lv_room (Nat.le_of_ble_eq_true rfl)) dX8_grow_23 ⟨Nat.le_of_ble_eq_true rfl, Nat.le_of_ble_eq_true rfl⟩) hS (fun q _ h => hFc q h) hFc (fun r u t H1 locs ht hvm hw hB hz1 hk1 hS => ?_)
  obtain ⟨hw, hR⟩ := hw
  subst hw
  obtain ⟨fr1, hfr1⟩ : ∃ z, z = u := ⟨_, rfl⟩
  rw [← hfr1] at hB hR
  clear hfr1
  obtain ⟨hP1, hK1, hD1⟩ := hB
  rw [ht] at hP1
  have hK1 := va_K.moved hvm.symm hK1
  obtain ⟨hP, hD⟩ := va_join (wr := []) (w1 := [(h0, .inr (8, fr1)), (qt, .inr (7, ft)), (qk, .inl (ck, 6010, .inl fk)), (qi, .inl (ci, 6010, .inl fi)), (qs, .inl (cs, 6010, .inl fz))]) hP hD [0, 1, 2, 3, 4] [] rfl rfl (by decide) (by decide) hk1 hFc hP1 hD1
  have hK := (hK.sub (tys' := []) [] rfl).app hK1
  clear hPc hDc hKc hFc hP1 hK1 hD1 hk1 hz1
  generalize H1 = H at hP hS ⊢
  have hP : va_P (dC, dI) vwCl [(h0, .inr (8, fr1)), (qt, .inr (7, ft)), (qk, .inl (ck, 6010, .inl fk)), (qi, .inl (ci, 6010, .inl fi)), (qs, .inl (cs, 6010, .inl fz))] H := hP
  have hD : va_D A [(h0, .inr (8, fr1)), (qt, .inr (7, ft)), (qk, .inl (ck, 6010, .inl fk)), (qi, .inl (ci, 6010, .inl fi)), (qs, .inl (cs, 6010, .inl fz))] := hD
  have hK : va_K (dC, dI) vwCl [(ck, .int), (ci, .int), (cs, .int)] s := hK
  refine kq_put [(10, .int 0), (11, .int 18), (12, .ref qt), (14, .int 0)] hts iX8 tyX8 tyX8_ok nmX8 hx hb hown hK hP hD hS 0 rfl rfl hR 10 (by decide) (by decide) (hts _ (bP 540 rfl)) rfl (ty := .int) (by decide +kernel) (v := .int 0) rfl rfl dX8_grow_26 (fun f h => kJ_put h _ _ (by decide)) (fun H locs fr1 hR hP hD hS => ?_)
  have hP : va_P (dC, dI) vwCl [(h0, .inr (8, fr1)), (qt, .inr (7, ft)), (qk, .inl (ck, 6010, .inl fk)), (qi, .inl (ci, 6010, .inl fi)), (qs, .inl (cs, 6010, .inl fz))] H := hP
  have hD : va_D A [(h0, .inr (8, fr1)), (qt, .inr (7, ft)), (qk, .inl (ck, 6010, .inl fk)), (qi, .inl (ci, 6010, .inl fi)), (qs, .inl (cs, 6010, .inl fz))] := hD
  refine lv_aload_n hx hb dX8_grow_29 rfl (lv_at hl 0 rfl) ?_
  refine lv_iconst (v := 0) hx hb dX8_grow_30 (by decide) ?_
  have hPc := hP.sub (ws' := [(h0, .inr (8, fr1))]) [0] rfl
  have hDc := hD.sub (ws' := [(h0, .inr (8, fr1))]) [0] (by decide) rfl
  have hKc := hK.sub (tys' := []) [] rfl
  have hFc := va_free (wc := [(h0, .inr (8, fr1))]) hD hS hA [0] rfl
  refine va_calli (va_runV (As := [.int 0]) (rest := []) ⟨hx, hb, hml, hown, hts⟩ (c_Tree_is l dC dI h0 H.size fr1) (cwV 1 hts (gV (y := yX8_is) _ 541 542 543 348 526 rfl rfl rfl rfl rfl) rfl rfl rfl (by decide +kernel) ⟨Nat.le_of_ble_eq_true rfl, Nat.le_of_ble_eq_true rfl⟩) ⟨fun a U g mk q => by obtain ⟨q0, q1, qJ, qP, qK, qD⟩ := q; exact ⟨q0, q1, qJ, qP, va_K.moved (u := U) (U := U.calling g mk a) (Vm.Alike.refl U.vm) qK, qD⟩, va_recv hKc hPc (ci := 8) (q0 := 0) rfl rfl, fun U hU hW => ⟨rfl, by rw [hU], kJ_sub hR (by simp), by rw [hU]; exact hPc, va_K.moved hW.alike hKc, hDc.weaken (fun _ _ _ _ => trivial)⟩⟩ rfl rfl hl.1 rfl (lv_room (Nat.le_of_ble_eq_true rfl)) dX8_grow_31 ⟨Nat.le_of_ble_eq_true rfl, Nat.le_of_ble_eq_true rfl⟩) hS (fun q _ h => hFc q h) hFc (fun r u t H1 locs ht hvm hw hB hz1 hk1 hS => ?_)
  subst hw
  obtain ⟨hP1, hK1, hD1⟩ := hB
  rw [ht] at hP1
  have hK1 := va_K.moved hvm.symm hK1
  obtain ⟨hP, hD⟩ := va_join (wr := [(qt, .inr (7, ft)), (qk, .inl (ck, 6010, .inl fk)), (qi, .inl (ci, 6010, .inl fi)), (qs, .inl (cs, 6010, .inl fz))]) (w1 := [(h0, .inr (8, fr1))]) hP hD [0] [1, 2, 3, 4] rfl rfl (by decide) (by decide) hk1 hFc hP1 hD1
  have hK := (hK.sub (tys' := [(ck, .int), (ci, .int), (cs, .int)]) [0, 1, 2] rfl).app hK1
  clear hPc hDc hKc hFc hP1 hK1 hD1 hk1 hz1
  generalize H1 = H at hP hS ⊢
  have hP : va_P (dC, dI) vwCl [(qt, .inr (7, ft)), (qk, .inl (ck, 6010, .inl fk)), (qi, .inl (ci, 6010, .inl fi)), (qs, .inl (cs, 6010, .inl fz)), (h0, .inr (8, fr1))] H := hP
  have hD : va_D A [(qt, .inr (7, ft)), (qk, .inl (ck, 6010, .inl fk)), (qi, .inl (ci, 6010, .inl fi)), (qs, .inl (cs, 6010, .inl fz)), (h0, .inr (8, fr1))] := hD
  have hK : va_K (dC, dI) vwCl [(ck, .int), (ci, .int), (cs, .int)] s := hK
  have hP := hP.sub (ws' := [(h0, .inr (8, fr1)), (qt, .inr (7, ft)), (qk, .inl (ck, 6010, .inl fk)), (qi, .inl (ci, 6010, .inl fi)), (qs, .inl (cs, 6010, .inl fz))]) [4, 0, 1, 2, 3] rfl
  have hD := hD.sub (ws' := [(h0, .inr (8, fr1)), (qt, .inr (7, ft)), (qk, .inl (ck, 6010, .inl fk)), (qi, .inl (ci, 6010, .inl fi)), (qs, .inl (cs, 6010, .inl fz))]) [4, 0, 1, 2, 3] (by decide) rfl
  refine lv_if_ne (tgt := 42) hx hb dX8_grow_34 (by decide) (fun h => absurd h (by decide)) (fun _ => ?_)
  refine lv_aload_n hx hb dX8_grow_37 rfl (lv_at hl 0 rfl) ?_
  have hPc := hP.sub (ws' := [(h0, .inr (8, fr1))]) [0] rfl
  have hDc := hD.sub (ws' := [(h0, .inr (8, fr1))]) [0] (by decide) rfl
  have hKc := hK.sub (tys' := []) [] rfl
  have hFc := va_free (wc := [(h0, .inr (8, fr1))]) hD hS hA [0] rfl
  refine va_calli (va_runV (As := []) (rest := []) ⟨hx, hb, hml, hown, hts⟩ (c_Tree_refuse18 l dC dI h0 H.size fr1) (cwV 0 hts (gV (y := yX8_refuse) _ 531 532 533 348 523 rfl rfl rfl rfl rfl) rfl rfl rfl (by decide +kernel) ⟨Nat.le_of_ble_eq_true rfl, Nat.le_of_ble_eq_true rfl⟩) ⟨fun a U g mk q => by obtain ⟨q0, q1, qJ, qP, qK, qD⟩ := q; exact ⟨q0, q1, qJ, qP, va_K.moved (u := U) (U := U.calling g mk a) (Vm.Alike.refl U.vm) qK, qD⟩, va_recv hKc hPc (ci := 8) (q0 := 0) rfl rfl, fun U hU hW => ⟨rfl, by rw [hU], kJ_sub hR (by simp), by rw [hU]; exact hPc, va_K.moved hW.alike hKc, hDc.weaken (fun _ _ _ _ => trivial)⟩⟩ rfl rfl hl.1 rfl (lv_room (Nat.le_of_ble_eq_true rfl)) dX8_grow_38 ⟨Nat.le_of_ble_eq_true rfl, Nat.le_of_ble_eq_true rfl⟩) hS (fun q _ h => hFc q h) hFc (fun r u t H1 locs ht hvm hw hB hz1 hk1 hS => ?_)
  obtain ⟨hP1, hK1, hD1⟩ := hB
  rw [ht] at hP1
  have hK1 := va_K.moved hvm.symm hK1
  obtain ⟨hP, hD⟩ := va_join (wr := [(qt, .inr (7, ft)), (qk, .inl (ck, 6010, .inl fk)), (qi, .inl (ci, 6010, .inl fi)), (qs, .inl (cs, 6010, .inl fz))]) (w1 := [(h0, .inr (8, fr1))]) hP hD [0] [1, 2, 3, 4] rfl rfl (by decide) (by decide) hk1 hFc hP1 hD1
  have hK := (hK.sub (tys' := [(ck, .int), (ci, .int), (cs, .int)]) [0, 1, 2] rfl).app hK1
  clear hPc hDc hKc hFc hP1 hK1 hD1 hk1 hz1
  generalize H1 = H at hP hS ⊢
  have hP : va_P (dC, dI) vwCl [(qt, .inr (7, ft)), (qk, .inl (ck, 6010, .inl fk)), (qi, .inl (ci, 6010, .inl fi)), (qs, .inl (cs, 6010, .inl fz)), (h0, .inr (8, fr1))] H := hP
  have hD : va_D A [(qt, .inr (7, ft)), (qk, .inl (ck, 6010, .inl fk)), (qi, .inl (ci, 6010, .inl fi)), (qs, .inl (cs, 6010, .inl fz)), (h0, .inr (8, fr1))] := hD
  have hK : va_K (dC, dI) vwCl [(ck, .int), (ci, .int), (cs, .int)] s := hK
  have hP := hP.sub (ws' := [(h0, .inr (8, fr1)), (qt, .inr (7, ft)), (qk, .inl (ck, 6010, .inl fk)), (qi, .inl (ci, 6010, .inl fi)), (qs, .inl (cs, 6010, .inl fz))]) [4, 0, 1, 2, 3] rfl
  have hD := hD.sub (ws' := [(h0, .inr (8, fr1)), (qt, .inr (7, ft)), (qk, .inl (ck, 6010, .inl fk)), (qi, .inl (ci, 6010, .inl fi)), (qs, .inl (cs, 6010, .inl fz))]) [4, 0, 1, 2, 3] (by decide) rfl
  refine lv_pop hx hb dX8_grow_41 rfl ?_
  have hP := hP.sub (ws' := [(h0, .inr (8, fr1))]) [0] rfl
  have hD := hD.sub (ws' := [(h0, .inr (8, fr1))]) [0] (by decide) rfl
  have hK := hK.sub (tys' := []) [] rfl
  exact W.vret hx hb hr (fun t ht hW => ⟨⟨fr1, rfl, kJ_sub hR (by simp), by rw [ht]; exact hP, va_K.moved hW.alike hK, hD⟩, hS.F ht⟩) hS.2.2 dX8_grow_42
set_option maxHeartbeats 4000000 in
set_option maxRecDepth 100000 in
/-- c_MeetingHouse_read -/
theorem c_MeetingHouse_read (l : Launch) (dC : Nat → ClassId) (dI : Nat → Nat → Nat) (h0 sz : Nat) (fx ft fr fm : List Value) (qt qr qm : Nat) (ql qf qn qb qk qv qi qs : Nat) (cl cf cn cb ck cv ci cs : ClassId) (g fF fN fB fk fv fi fz : Nat → Int32) (s1 v1 l1 s2 v2 l2 s3 v3 l3 : Nat) (f1 f2 f3 : Nat → Int32) : Met l yX11_read (.code yX11_read cX11_read 1 (some .int) :: wP) ({ frames := 7, cells := 0, slots := 0, locals := 155 }) (va_Pc [.ref h0] (fun U => U.heap.size = sz ∧ kJ 9 [(0, .ref qt), (1, .ref qr), (7, .ref qm)] fx ∧ kJ 19 [(14, .ref ql), (15, .ref qf), (16, .ref qn), (17, .ref qb), (2, .ref qk), (3, .ref qv), (4, .ref qi), (5, .ref qs), (1, .int 0)] ft ∧ kJ 17 [(12, .ref qt)] fr ∧ kJ 21 [] fm ∧ l1 ≤ 100 ∧ l2 ≤ 100 ∧ l3 ≤ 100 ∧ vk_R RX7 141 "AFTER ALT AND BOOL BYTE CASE CHAN ELSE FALSE FOR FUNCTION IF INT " s1 U ∧ vk_R RX7 147 "IS MINUS MOSTNEG MOSTPOS NOT OF OR PAR PLUS PRI PROC PROTOCOL RESULT SEQ " s2 U ∧ vk_R RX7 149 "SIZE SKIP STOP TIMER TIMES TRUE VAL VALOF WHILE screen keyboard " s3 U ∧ va_P (dC, dI) vwCl [(h0, .inr (11, fx)), (qt, .inr (7, ft)), (ql, .inl (cl, 6400, .inl g)), (qf, .inl (cf, 3150, .inl fF)), (qn, .inl (cn, 3150, .inl fN)), (qb, .inl (cb, 512, .inl fB)), (qk, .inl (ck, 6010, .inl fk)), (qv, .inl (cv, 6010, .inl fv)), (qi, .inl (ci, 6010, .inl fi)), (qs, .inl (cs, 6010, .inl fz)), (qr, .inr (8, fr)), (qm, .inr (3, fm))] U.heap ∧ va_K (dC, dI) vwCl [(cl, .byte), (cf, .int), (cn, .int), (cb, .int), (ck, .int), (cv, .int), (ci, .int), (cs, .int)] U ∧ va_D (fun _ => True) [(h0, .inr (11, fx)), (qt, .inr (7, ft)), (ql, .inl (cl, 6400, .inl g)), (qf, .inl (cf, 3150, .inl fF)), (qn, .inl (cn, 3150, .inl fN)), (qb, .inl (cb, 512, .inl fB)), (qk, .inl (ck, 6010, .inl fk)), (qv, .inl (cv, 6010, .inl fv)), (qi, .inl (ci, 6010, .inl fi)), (qs, .inl (cs, 6010, .inl fz)), (qr, .inr (8, fr)), (qm, .inr (3, fm))] ∧ kS s1 v1 l1 f1 (va_A [(h0, .inr (11, fx)), (qt, .inr (7, ft)), (ql, .inl (cl, 6400, .inl g)), (qf, .inl (cf, 3150, .inl fF)), (qn, .inl (cn, 3150, .inl fN)), (qb, .inl (cb, 512, .inl fB)), (qk, .inl (ck, 6010, .inl fk)), (qv, .inl (cv, 6010, .inl fv)), (qi, .inl (ci, 6010, .inl fi)), (qs, .inl (cs, 6010, .inl fz)), (qr, .inr (8, fr)), (qm, .inr (3, fm))] sz) U U.heap ∧ kS s2 v2 l2 f2 (va_A [(h0, .inr (11, fx)), (qt, .inr (7, ft)), (ql, .inl (cl, 6400, .inl g)), (qf, .inl (cf, 3150, .inl fF)), (qn, .inl (cn, 3150, .inl fN)), (qb, .inl (cb, 512, .inl fB)), (qk, .inl (ck, 6010, .inl fk)), (qv, .inl (cv, 6010, .inl fv)), (qi, .inl (ci, 6010, .inl fi)), (qs, .inl (cs, 6010, .inl fz)), (qr, .inr (8, fr)), (qm, .inr (3, fm))] sz) U U.heap ∧ kS s3 v3 l3 f3 (va_A [(h0, .inr (11, fx)), (qt, .inr (7, ft)), (ql, .inl (cl, 6400, .inl g)), (qf, .inl (cf, 3150, .inl fF)), (qn, .inl (cn, 3150, .inl fN)), (qb, .inl (cb, 512, .inl fB)), (qk, .inl (ck, 6010, .inl fk)), (qv, .inl (cv, 6010, .inl fv)), (qi, .inl (ci, 6010, .inl fi)), (qs, .inl (cs, 6010, .inl fz)), (qr, .inr (8, fr)), (qm, .inr (3, fm))] sz) U U.heap ∧ kE (va_A [(h0, .inr (11, fx)), (qt, .inr (7, ft)), (ql, .inl (cl, 6400, .inl g)), (qf, .inl (cf, 3150, .inl fF)), (qn, .inl (cn, 3150, .inl fN)), (qb, .inl (cb, 512, .inl fB)), (qk, .inl (ck, 6010, .inl fk)), (qv, .inl (cv, 6010, .inl fv)), (qi, .inl (ci, 6010, .inl fi)), (qs, .inl (cs, 6010, .inl fz)), (qr, .inr (8, fr)), (qm, .inr (3, fm))] sz) U U.heap)) (va_Qi (fun (r : Int32) (_ : Unit) => r = 18) (fun (_ : Unit) (_ : State) => True) (va_A [(h0, .inr (11, fx)), (qt, .inr (7, ft)), (ql, .inl (cl, 6400, .inl g)), (qf, .inl (cf, 3150, .inl fF)), (qn, .inl (cn, 3150, .inl fN)), (qb, .inl (cb, 512, .inl fB)), (qk, .inl (ck, 6010, .inl fk)), (qv, .inl (cv, 6010, .inl fv)), (qi, .inl (ci, 6010, .inl fi)), (qs, .inl (cs, 6010, .inl fz)), (qr, .inr (8, fr)), (qm, .inr (3, fm))] sz)) 0 0 (va_A [(h0, .inr (11, fx)), (qt, .inr (7, ft)), (ql, .inl (cl, 6400, .inl g)), (qf, .inl (cf, 3150, .inl fF)), (qn, .inl (cn, 3150, .inl fN)), (qb, .inl (cb, 512, .inl fB)), (qk, .inl (ck, 6010, .inl fk)), (qv, .inl (cv, 6010, .inl fv)), (qi, .inl (ci, 6010, .inl fi)), (qs, .inl (cs, 6010, .inl fz)), (qr, .inr (8, fr)), (qm, .inr (3, fm))] sz) := by
  refine Met.ofW (cc := cX11_read) (maxL := 1) (ret := (some .int)) (by decide) rfl ?_
  intro p e s m args below meth c s₁ B hml hv
  obtain ⟨rfl, hsz, hJ, hT, hR, hM, hl1, hl2, hl3, hR1, hR2, hR3, hP, hK, hD0, hQ1, hQ2, hQ3, hE⟩ := hv
  have hx := B.exec
  have hb := B.bytes
  have hr := B.returns
  have hts := atoms_spec (ws := .code yX11_read cX11_read 1 (some .int) :: wP) B.pre
  have hown : s.vm.findClass RX11 = some m.cls := findClass_of_methodNamed B.named
  subst hsz
  have hD := hD0.self (sz := s.heap.size)
  generalize hAe : va_A [(h0, .inr (11, fx)), (qt, .inr (7, ft)), (ql, .inl (cl, 6400, .inl g)), (qf, .inl (cf, 3150, .inl fF)), (qn, .inl (cn, 3150, .inl fN)), (qb, .inl (cb, 512, .inl fB)), (qk, .inl (ck, 6010, .inl fk)), (qv, .inl (cv, 6010, .inl fv)), (qi, .inl (ci, 6010, .inl fi)), (qs, .inl (cs, 6010, .inl fz)), (qr, .inr (8, fr)), (qm, .inr (3, fm))] s.heap.size = A at hD hQ1 hQ2 hQ3 hE ⊢
  have hA : ∀ q : Nat, s.heap.size ≤ q → A q := fun q h => by rw [← hAe]; exact Or.inr h
  have hS : va_S A s.heap s.heap [] := va_S.rf
  have hl := lv_entry ([.ref h0]) (n := 1) (Nat.le_of_ble_eq_true rfl)
  rw [lg_entry_eq]
  generalize (lg_sl ([.ref h0]) ++ List.replicate (1 - (lg_sl ([.ref h0])).length) Slot.unset).toArray = ls at hl ⊢
  obtain ⟨H, hHe⟩ : ∃ H, H = s.heap := ⟨_, rfl⟩
  rw [← hHe] at hP ⊢
  have hS : va_S A s.heap H [] := by rw [hHe]; exact hS
  have hl : lv_has ls 1 [(0, .ref h0)] := hl
  refine lv_aload_n hx hb dX11_read_0 rfl (lv_at hl 0 rfl) ?_
  refine va_get (D := (dC, dI)) (ci := 11) (v := .ref qt) (C := RX11) (T := TX11) (N := 9) hx hb hts iX11 hown hK hP 0 rfl rfl 0 (by decide) (hts _ (bP 345 rfl)) (fun _ h9 => h9) (kJ_at hJ 0 rfl) dX11_read_1 ?_
  have hPc := hP.sub (ws' := [(qt, .inr (7, ft)), (ql, .inl (cl, 6400, .inl g)), (qf, .inl (cf, 3150, .inl fF)), (qn, .inl (cn, 3150, .inl fN)), (qb, .inl (cb, 512, .inl fB)), (qk, .inl (ck, 6010, .inl fk)), (qv, .inl (cv, 6010, .inl fv)), (qi, .inl (ci, 6010, .inl fi)), (qs, .inl (cs, 6010, .inl fz))]) [1, 2, 3, 4, 5, 6, 7, 8, 9] rfl
  have hDc := hD.sub (ws' := [(qt, .inr (7, ft)), (ql, .inl (cl, 6400, .inl g)), (qf, .inl (cf, 3150, .inl fF)), (qn, .inl (cn, 3150, .inl fN)), (qb, .inl (cb, 512, .inl fB)), (qk, .inl (ck, 6010, .inl fk)), (qv, .inl (cv, 6010, .inl fv)), (qi, .inl (ci, 6010, .inl fi)), (qs, .inl (cs, 6010, .inl fz))]) [1, 2, 3, 4, 5, 6, 7, 8, 9] (by decide) rfl
  have hKc := hK.sub (tys' := [(cl, .byte), (cf, .int), (cn, .int), (cb, .int), (ck, .int), (cv, .int), (ci, .int), (cs, .int)]) [0, 1, 2, 3, 4, 5, 6, 7] rfl
  have hFc := va_free (wc := [(qt, .inr (7, ft)), (ql, .inl (cl, 6400, .inl g)), (qf, .inl (cf, 3150, .inl fF)), (qn, .inl (cn, 3150, .inl fN)), (qb, .inl (cb, 512, .inl fB)), (qk, .inl (ck, 6010, .inl fk)), (qv, .inl (cv, 6010, .inl fv)), (qi, .inl (ci, 6010, .inl fi)), (qs, .inl (cs, 6010, .inl fz))]) hD hS hA [1, 2, 3, 4, 5, 6, 7, 8, 9] rfl
  refine va_callv (va_runV (As := []) (rest := []) ⟨hx, hb, hml, hown, hts⟩ (c_Text_cut l dC dI qt H.size ft ql qf qn qb qk qv qi qs cl cf cn cb ck cv ci cs g fF fN fB fk fv fi fz s1 v1 l1 s2 v2 l2 s3 v3 l3 f1 f2 f3) (cwV 0 hts (gV (y := yX7_cut) _ 545 546 547 343 505 rfl rfl rfl rfl rfl) rfl rfl rfl (by decide +kernel) ⟨Nat.le_of_ble_eq_true rfl, Nat.le_of_ble_eq_true rfl⟩) ⟨fun a U g mk q => by obtain ⟨q0, q1, qJ, a1, a2, a3, b1, b2, b3, qP, qK, qD, q2, q3, q4, qE⟩ := q; exact ⟨q0, q1, qJ, a1, a2, a3, vk_R.same (u := U) (U := U.calling g mk a) rfl b1, vk_R.same (u := U) (U := U.calling g mk a) rfl b2, vk_R.same (u := U) (U := U.calling g mk a) rfl b3, qP, va_K.moved (u := U) (U := U.calling g mk a) (Vm.Alike.refl U.vm) qK, qD, kS.moved (u := U) (U := U.calling g mk a) (Vm.Alike.refl U.vm) q2, kS.moved (u := U) (U := U.calling g mk a) (Vm.Alike.refl U.vm) q3, kS.moved (u := U) (U := U.calling g mk a) (Vm.Alike.refl U.vm) q4, kE.moved (u := U) (U := U.calling g mk a) (Vm.Alike.refl U.vm) qE⟩, va_recv hKc hPc (ci := 7) (q0 := 0) rfl rfl, fun U hU hW => ⟨rfl, by rw [hU], kJ_sub hT (by simp), hl1, hl2, hl3, vk_R.warm hW hR1, vk_R.warm hW hR2, vk_R.warm hW hR3, by rw [hU]; exact hPc, va_K.moved hW.alike hKc, hDc.weaken (fun _ _ _ _ => trivial), by rw [hU]; exact kS.moved hW.alike ((hQ1.kept hS.2.1).narrow hFc), by rw [hU]; exact kS.moved hW.alike ((hQ2.kept hS.2.1).narrow hFc), by rw [hU]; exact kS.moved hW.alike ((hQ3.kept hS.2.1).narrow hFc), by rw [hU]; exact kE.moved hW.alike ((hE.kept hS.2.1).narrow hFc)⟩⟩ rfl rfl hl.1 rfl (lv_room (Nat.le_of_ble_eq_true rfl)) dX11_read_4 ⟨Nat.le_of_ble_eq_true rfl, Nat.le_of_ble_eq_true rfl⟩) hS (fun q _ h => hFc q h) hFc (fun u t H1 locs ht hvm hw hB hz1 hk1 hS => ?_)
  obtain ⟨ft, fk, fi, fz⟩ := u
  obtain ⟨hT, hk0, hi0, hz0⟩ := hw
  obtain ⟨hP1, hK1, hD1⟩ := hB
  rw [ht] at hP1
  have hK1 := va_K.moved hvm.symm hK1
  obtain ⟨hP, hD⟩ := va_join (wr := [(h0, .inr (11, fx)), (qr, .inr (8, fr)), (qm, .inr (3, fm))]) (w1 := [(qt, .inr (7, ft)), (qk, .inl (ck, 6010, .inl fk)), (qi, .inl (ci, 6010, .inl fi)), (qs, .inl (cs, 6010, .inl fz))]) hP hD [1, 2, 3, 4, 5, 6, 7, 8, 9] [0, 10, 11] rfl rfl (by decide) (by decide) hk1 hFc hP1 hD1
  have hK := (hK.sub (tys' := []) [] rfl).app hK1
  clear hPc hDc hKc hFc hP1 hK1 hD1 hk1 hz1
  generalize H1 = H at hP hS ⊢
  have hP : va_P (dC, dI) vwCl [(h0, .inr (11, fx)), (qr, .inr (8, fr)), (qm, .inr (3, fm)), (qt, .inr (7, ft)), (qk, .inl (ck, 6010, .inl fk)), (qi, .inl (ci, 6010, .inl fi)), (qs, .inl (cs, 6010, .inl fz))] H := hP
  have hD : va_D A [(h0, .inr (11, fx)), (qr, .inr (8, fr)), (qm, .inr (3, fm)), (qt, .inr (7, ft)), (qk, .inl (ck, 6010, .inl fk)), (qi, .inl (ci, 6010, .inl fi)), (qs, .inl (cs, 6010, .inl fz))] := hD
  have hK : va_K (dC, dI) vwCl [(ck, .int), (ci, .int), (cs, .int)] s := hK
  refine lv_aload_n hx hb dX11_read_7 rfl (lv_at hl 0 rfl) ?_
  refine va_get (D := (dC, dI)) (ci := 11) (v := .ref qt) (C := RX11) (T := TX11) (N := 9) hx hb hts iX11 hown hK hP 0 rfl rfl 0 (by decide) (hts _ (bP 345 rfl)) (fun _ h9 => h9) (kJ_at hJ 0 rfl) dX11_read_8 ?_
  refine lv_iconst (v := 0) hx hb dX11_read_11 (by decide) ?_
  refine kq_put [(1, .int 0), (2, .ref qk), (4, .ref qi), (5, .ref qs)] hts iX7 tyX7 tyX7_ok nmX7 hx hb hown hK hP hD hS 3 rfl rfl hT 1 (by decide) (by decide) (hts _ (bP 421 rfl)) rfl (ty := .int) (by decide +kernel) (v := .int 0) rfl rfl dX11_read_12 (fun f h => kJ_put h _ _ (by decide)) (fun H locs ft hT hP hD hS => ?_)
  have hP : va_P (dC, dI) vwCl [(h0, .inr (11, fx)), (qr, .inr (8, fr)), (qm, .inr (3, fm)), (qt, .inr (7, ft)), (qk, .inl (ck, 6010, .inl fk)), (qi, .inl (ci, 6010, .inl fi)), (qs, .inl (cs, 6010, .inl fz))] H := hP
  have hD : va_D A [(h0, .inr (11, fx)), (qr, .inr (8, fr)), (qm, .inr (3, fm)), (qt, .inr (7, ft)), (qk, .inl (ck, 6010, .inl fk)), (qi, .inl (ci, 6010, .inl fi)), (qs, .inl (cs, 6010, .inl fz))] := hD
  refine lv_aload_n hx hb dX11_read_15 rfl (lv_at hl 0 rfl) ?_
  refine va_get (D := (dC, dI)) (ci := 11) (v := .ref qr) (C := RX11) (T := TX11) (N := 9) hx hb hts iX11 hown hK hP 0 rfl rfl 1 (by decide) (hts _ (bP 351 rfl)) (fun _ h9 => h9) (kJ_at hJ 1 rfl) dX11_read_16 ?_
  have hPc := hP.sub (ws' := [(qr, .inr (8, fr)), (qt, .inr (7, ft)), (qk, .inl (ck, 6010, .inl fk)), (qi, .inl (ci, 6010, .inl fi)), (qs, .inl (cs, 6010, .inl fz))]) [1, 3, 4, 5, 6] rfl
  have hDc := hD.sub (ws' := [(qr, .inr (8, fr)), (qt, .inr (7, ft)), (qk, .inl (ck, 6010, .inl fk)), (qi, .inl (ci, 6010, .inl fi)), (qs, .inl (cs, 6010, .inl fz))]) [1, 3, 4, 5, 6] (by decide) rfl
  have hKc := hK.sub (tys' := [(ck, .int), (ci, .int), (cs, .int)]) [0, 1, 2] rfl
  have hFc := va_free (wc := [(qr, .inr (8, fr)), (qt, .inr (7, ft)), (qk, .inl (ck, 6010, .inl fk)), (qi, .inl (ci, 6010, .inl fi)), (qs, .inl (cs, 6010, .inl fz))]) hD hS hA [1, 3, 4, 5, 6] rfl
  refine va_callv (va_runV (As := []) (rest := []) ⟨hx, hb, hml, hown, hts⟩ (c_Tree_grow l dC dI qr H.size fr ft qt qk qi qs ck ci cs fk fi fz) (cwV 0 hts (gV (y := yX8_grow) _ 548 549 550 348 534 rfl rfl rfl rfl rfl) rfl rfl rfl (by decide +kernel) ⟨Nat.le_of_ble_eq_true rfl, Nat.le_of_ble_eq_true rfl⟩) ⟨fun a U g mk q => by obtain ⟨q0, q1, qJ, a0, a2, a3, a4, qP, qK, qD⟩ := q; exact ⟨q0, q1, qJ, a0, a2, a3, a4, qP, va_K.moved (u := U) (U := U.calling g mk a) (Vm.Alike.refl U.vm) qK, qD⟩, va_recv hKc hPc (ci := 8) (q0 := 0) rfl rfl, fun U hU hW => ⟨rfl, by rw [hU], kJ_sub hR (by simp), kJ_sub hT (by simp), hk0, hi0, hz0, by rw [hU]; exact hPc, va_K.moved hW.alike hKc, hDc.weaken (fun _ _ _ _ => trivial)⟩⟩ rfl rfl hl.1 rfl (lv_room (Nat.le_of_ble_eq_true rfl)) dX11_read_19 ⟨Nat.le_of_ble_eq_true rfl, Nat.le_of_ble_eq_true rfl⟩) hS (fun q _ h => hFc q h) hFc (fun u t H1 locs ht hvm hw hB hz1 hk1 hS => ?_)
  have hR : kJ 17 [(11, .int 18)] u := hw
  obtain ⟨hP1, hK1, hD1⟩ := hB
  rw [ht] at hP1
  have hK1 := va_K.moved hvm.symm hK1
  obtain ⟨hP, hD⟩ := va_join (wr := [(h0, .inr (11, fx)), (qm, .inr (3, fm))]) (w1 := [(qr, .inr (8, u))]) hP hD [1, 3, 4, 5, 6] [0, 2] rfl rfl (by decide) (by decide) hk1 hFc hP1 hD1
  have hK := (hK.sub (tys' := []) [] rfl).app hK1
  clear hPc hDc hKc hFc hP1 hK1 hD1 hk1 hz1
  generalize H1 = H at hP hS ⊢
  have hP : va_P (dC, dI) vwCl [(h0, .inr (11, fx)), (qm, .inr (3, fm)), (qr, .inr (8, u))] H := hP
  have hD : va_D A [(h0, .inr (11, fx)), (qm, .inr (3, fm)), (qr, .inr (8, u))] := hD
  have hK : va_K (dC, dI) vwCl [] s := hK
  refine lv_aload_n hx hb dX11_read_22 rfl (lv_at hl 0 rfl) ?_
  refine va_get (D := (dC, dI)) (ci := 11) (v := .ref qr) (C := RX11) (T := TX11) (N := 9) hx hb hts iX11 hown hK hP 0 rfl rfl 1 (by decide) (hts _ (bP 351 rfl)) (fun _ h9 => h9) (kJ_at hJ 1 rfl) dX11_read_23 ?_
  refine va_get (D := (dC, dI)) (ci := 8) (v := .int 18) (C := RX8) (T := TX8) (N := 17) hx hb hts iX8 hown hK hP 2 rfl rfl 11 (by decide) (hts _ (bP 551 rfl)) (fun _ h9 => h9) (kJ_at hR 0 rfl) dX11_read_26 ?_
  refine lv_if_ne (tgt := 39) hx hb dX11_read_29 (by decide) (fun _ => ?_) (fun h => absurd h (by decide))
  refine lv_aload_n hx hb dX11_read_39 rfl (lv_at hl 0 rfl) ?_
  refine va_get (D := (dC, dI)) (ci := 11) (v := .ref qr) (C := RX11) (T := TX11) (N := 9) hx hb hts iX11 hown hK hP 0 rfl rfl 1 (by decide) (hts _ (bP 351 rfl)) (fun _ h9 => h9) (kJ_at hJ 1 rfl) dX11_read_40 ?_
  refine va_get (D := (dC, dI)) (ci := 8) (v := .int 18) (C := RX8) (T := TX8) (N := 17) hx hb hts iX8 hown hK hP 2 rfl rfl 11 (by decide) (hts _ (bP 551 rfl)) (fun _ h9 => h9) (kJ_at hR 0 rfl) dX11_read_43 ?_
  refine lv_if_ne (tgt := 56) hx hb dX11_read_46 (by decide) (fun _ => ?_) (fun h => absurd h (by decide))
  refine lv_aload_n hx hb dX11_read_56 rfl (lv_at hl 0 rfl) ?_
  refine va_get (D := (dC, dI)) (ci := 11) (v := .ref qr) (C := RX11) (T := TX11) (N := 9) hx hb hts iX11 hown hK hP 0 rfl rfl 1 (by decide) (hts _ (bP 351 rfl)) (fun _ h9 => h9) (kJ_at hJ 1 rfl) dX11_read_57 ?_
  refine va_get (D := (dC, dI)) (ci := 8) (v := .int 18) (C := RX8) (T := TX8) (N := 17) hx hb hts iX8 hown hK hP 2 rfl rfl 11 (by decide) (hts _ (bP 551 rfl)) (fun _ h9 => h9) (kJ_at hR 0 rfl) dX11_read_60 ?_
  refine lv_if_ne (tgt := 73) hx hb dX11_read_63 (by decide) (fun _ => ?_) (fun h => absurd h (by decide))
  refine lv_aload_n hx hb dX11_read_73 rfl (lv_at hl 0 rfl) ?_
  refine va_get (D := (dC, dI)) (ci := 11) (v := .ref qr) (C := RX11) (T := TX11) (N := 9) hx hb hts iX11 hown hK hP 0 rfl rfl 1 (by decide) (hts _ (bP 351 rfl)) (fun _ h9 => h9) (kJ_at hJ 1 rfl) dX11_read_74 ?_
  refine va_get (D := (dC, dI)) (ci := 8) (v := .int 18) (C := RX8) (T := TX8) (N := 17) hx hb hts iX8 hown hK hP 2 rfl rfl 11 (by decide) (hts _ (bP 551 rfl)) (fun _ h9 => h9) (kJ_at hR 0 rfl) dX11_read_77 ?_
  refine lv_if_ne (tgt := 94) hx hb dX11_read_80 (by decide) (fun _ => ?_) (fun h => absurd h (by decide))
  refine lv_aload_n hx hb dX11_read_94 rfl (lv_at hl 0 rfl) ?_
  refine lv_aload_n hx hb dX11_read_95 rfl (lv_at hl 0 rfl) ?_
  refine va_get (D := (dC, dI)) (ci := 11) (v := .ref qr) (C := RX11) (T := TX11) (N := 9) hx hb hts iX11 hown hK hP 0 rfl rfl 1 (by decide) (hts _ (bP 351 rfl)) (fun _ h9 => h9) (kJ_at hJ 1 rfl) dX11_read_96 ?_
  refine va_get (D := (dC, dI)) (ci := 8) (v := .int 18) (C := RX8) (T := TX8) (N := 17) hx hb hts iX8 hown hK hP 2 rfl rfl 11 (by decide) (hts _ (bP 551 rfl)) (fun _ h9 => h9) (kJ_at hR 0 rfl) dX11_read_99 ?_
  refine lv_if_ne (tgt := 109) hx hb dX11_read_102 (by decide) (fun _ => ?_) (fun h => absurd h (by decide))
  refine lv_iconst (v := 0) hx hb dX11_read_109 (by decide) ?_
  refine kq_put [(8, .int 0), (0, .ref qt), (1, .ref qr), (7, .ref qm)] hts iX11 tyX11 tyX11_ok nmX11 hx hb hown hK hP hD hS 0 rfl rfl hJ 8 (by decide) (by decide) (hts _ (bP 388 rfl)) rfl (ty := .boolean) (by decide +kernel) (v := .int 0) (by decide) (by decide) dX11_read_110 (fun f h => kJ_put h _ _ (by decide)) (fun H locs fx hJ hP hD hS => ?_)
  have hP : va_P (dC, dI) vwCl [(h0, .inr (11, fx)), (qm, .inr (3, fm)), (qr, .inr (8, u))] H := hP
  have hD : va_D A [(h0, .inr (11, fx)), (qm, .inr (3, fm)), (qr, .inr (8, u))] := hD
  refine lv_aload_n hx hb dX11_read_113 rfl (lv_at hl 0 rfl) ?_
  refine va_get (D := (dC, dI)) (ci := 11) (v := .int 0) (C := RX11) (T := TX11) (N := 9) hx hb hts iX11 hown hK hP 0 rfl rfl 8 (by decide) (hts _ (bP 388 rfl)) (fun _ h9 => h9) (kJ_at hJ 0 rfl) dX11_read_114 ?_
  refine lv_if_eq (tgt := 127) hx hb dX11_read_117 (by decide) (fun _ => ?_) (fun h => absurd h (by decide))
  refine lv_aload_n hx hb dX11_read_127 rfl (lv_at hl 0 rfl) ?_
  refine va_get (D := (dC, dI)) (ci := 11) (v := .ref qm) (C := RX11) (T := TX11) (N := 9) hx hb hts iX11 hown hK hP 0 rfl rfl 7 (by decide) (hts _ (bP 387 rfl)) (fun _ h9 => h9) (kJ_at hJ 3 rfl) dX11_read_128 ?_
  refine lv_iconst (v := 0) hx hb dX11_read_131 (by decide) ?_
  refine kq_put [(0, .int 0)] hts iX3 tyX3 tyX3_ok nmX3 hx hb hown hK hP hD hS 1 rfl rfl hM 0 (by decide) (by decide) (hts _ (bP 435 rfl)) rfl (ty := .boolean) (by decide +kernel) (v := .int 0) (by decide) (by decide) dX11_read_132 (fun f h => kJ_put h _ _ (by decide)) (fun H locs fm hM hP hD hS => ?_)
  have hP : va_P (dC, dI) vwCl [(h0, .inr (11, fx)), (qm, .inr (3, fm)), (qr, .inr (8, u))] H := hP
  have hD : va_D A [(h0, .inr (11, fx)), (qm, .inr (3, fm)), (qr, .inr (8, u))] := hD
  refine lv_aload_n hx hb dX11_read_135 rfl (lv_at hl 0 rfl) ?_
  refine va_get (D := (dC, dI)) (ci := 11) (v := .ref qr) (C := RX11) (T := TX11) (N := 9) hx hb hts iX11 hown hK hP 0 rfl rfl 1 (by decide) (hts _ (bP 351 rfl)) (fun _ h9 => h9) (kJ_at hJ 2 rfl) dX11_read_136 ?_
  refine va_get (D := (dC, dI)) (ci := 8) (v := .int 18) (C := RX8) (T := TX8) (N := 17) hx hb hts iX8 hown hK hP 2 rfl rfl 11 (by decide) (hts _ (bP 551 rfl)) (fun _ h9 => h9) (kJ_at hR 0 rfl) dX11_read_139 ?_
  exact W.iret (v := 18) hx hb hr (fun t ht hW => ⟨⟨18, (), rfl, rfl, trivial⟩, hS.F ht⟩) hS.2.2 dX11_read_142

/-! The class: Hall and Machine -/
theorem dX1_init_0 : decode cX1_init 0 = .ok (.aload_n 0, 1) := by decide +kernel
theorem dX1_init_1 : decode cX1_init 1 = .ok (.invokespecial 3, 3) := by decide +kernel
theorem dX1_init_4 : decode cX1_init 4 = .ok (.aload_n 0, 1) := by decide +kernel
theorem dX1_init_5 : decode cX1_init 5 = .ok (.bipush 80, 2) := by decide +kernel
theorem dX1_init_7 : decode cX1_init 7 = .ok (.anewarray 9, 3) := by decide +kernel
theorem dX1_init_10 : decode cX1_init 10 = .ok (.putfield 11, 3) := by decide +kernel
theorem dX1_init_13 : decode cX1_init 13 = .ok (.aload_n 0, 1) := by decide +kernel
theorem dX1_init_14 : decode cX1_init 14 = .ok (.bipush 80, 2) := by decide +kernel
theorem dX1_init_16 : decode cX1_init 16 = .ok (.newarray .int, 2) := by decide +kernel
theorem dX1_init_18 : decode cX1_init 18 = .ok (.putfield 17, 3) := by decide +kernel
theorem dX1_init_21 : decode cX1_init 21 = .ok (.aload_n 0, 1) := by decide +kernel
theorem dX1_init_22 : decode cX1_init 22 = .ok (.sipush 2000, 3) := by decide +kernel
theorem dX1_init_25 : decode cX1_init 25 = .ok (.newarray .byte, 2) := by decide +kernel
theorem dX1_init_27 : decode cX1_init 27 = .ok (.putfield 21, 3) := by decide +kernel
theorem dX1_init_30 : decode cX1_init 30 = .ok (.aload_n 0, 1) := by decide +kernel
theorem dX1_init_31 : decode cX1_init 31 = .ok (.sipush 500, 3) := by decide +kernel
theorem dX1_init_34 : decode cX1_init 34 = .ok (.newarray .int, 2) := by decide +kernel
theorem dX1_init_36 : decode cX1_init 36 = .ok (.putfield 25, 3) := by decide +kernel
theorem dX1_init_39 : decode cX1_init 39 = .ok (.aload_n 0, 1) := by decide +kernel
theorem dX1_init_40 : decode cX1_init 40 = .ok (.sipush 1024, 3) := by decide +kernel
theorem dX1_init_43 : decode cX1_init 43 = .ok (.newarray .int, 2) := by decide +kernel
theorem dX1_init_45 : decode cX1_init 45 = .ok (.putfield 28, 3) := by decide +kernel
theorem dX1_init_48 : decode cX1_init 48 = .ok (.aload_n 0, 1) := by decide +kernel
theorem dX1_init_49 : decode cX1_init 49 = .ok (.sipush 448, 3) := by decide +kernel
theorem dX1_init_52 : decode cX1_init 52 = .ok (.newarray .int, 2) := by decide +kernel
theorem dX1_init_54 : decode cX1_init 54 = .ok (.putfield 31, 3) := by decide +kernel
theorem dX1_init_57 : decode cX1_init 57 = .ok (.iconst 0, 1) := by decide +kernel
theorem dX1_init_58 : decode cX1_init 58 = .ok (.istore_n 1, 1) := by decide +kernel
theorem dX1_init_59 : decode cX1_init 59 = .ok (.iload_n 1, 1) := by decide +kernel
theorem dX1_init_60 : decode cX1_init 60 = .ok (.bipush 80, 2) := by decide +kernel
theorem dX1_init_62 : decode cX1_init 62 = .ok (.if_icmp .ge 30, 3) := by decide +kernel
theorem dX1_init_65 : decode cX1_init 65 = .ok (.aload_n 0, 1) := by decide +kernel
theorem dX1_init_66 : decode cX1_init 66 = .ok (.getfield 11, 3) := by decide +kernel
theorem dX1_init_69 : decode cX1_init 69 = .ok (.iload_n 1, 1) := by decide +kernel
theorem dX1_init_70 : decode cX1_init 70 = .ok (.new 9, 3) := by decide +kernel
theorem dX1_init_73 : decode cX1_init 73 = .ok (.dup, 1) := by decide +kernel
theorem dX1_init_74 : decode cX1_init 74 = .ok (.iload_n 1, 1) := by decide +kernel
theorem dX1_init_75 : decode cX1_init 75 = .ok (.invokespecial 34, 3) := by decide +kernel
theorem dX1_init_78 : decode cX1_init 78 = .ok (.aastore, 1) := by decide +kernel
theorem dX1_init_79 : decode cX1_init 79 = .ok (.aload_n 0, 1) := by decide +kernel
theorem dX1_init_80 : decode cX1_init 80 = .ok (.getfield 17, 3) := by decide +kernel
theorem dX1_init_83 : decode cX1_init 83 = .ok (.iload_n 1, 1) := by decide +kernel
theorem dX1_init_84 : decode cX1_init 84 = .ok (.iload_n 1, 1) := by decide +kernel
theorem dX1_init_85 : decode cX1_init 85 = .ok (.iastore, 1) := by decide +kernel
theorem dX1_init_86 : decode cX1_init 86 = .ok (.iinc 1 1, 3) := by decide +kernel
theorem dX1_init_89 : decode cX1_init 89 = .ok (.goto (-30), 3) := by decide +kernel
theorem dX1_init_92 : decode cX1_init 92 = .ok (.return_, 1) := by decide +kernel
theorem dX3_init_0 : decode cX3_init 0 = .ok (.aload_n 0, 1) := by decide +kernel
theorem dX3_init_1 : decode cX3_init 1 = .ok (.invokespecial 3, 3) := by decide +kernel
theorem dX3_init_4 : decode cX3_init 4 = .ok (.aload_n 0, 1) := by decide +kernel
theorem dX3_init_5 : decode cX3_init 5 = .ok (.new 9, 3) := by decide +kernel
theorem dX3_init_8 : decode cX3_init 8 = .ok (.dup, 1) := by decide +kernel
theorem dX3_init_9 : decode cX3_init 9 = .ok (.invokespecial 11, 3) := by decide +kernel
theorem dX3_init_12 : decode cX3_init 12 = .ok (.putfield 12, 3) := by decide +kernel
theorem dX3_init_15 : decode cX3_init 15 = .ok (.aload_n 0, 1) := by decide +kernel
theorem dX3_init_16 : decode cX3_init 16 = .ok (.new 18, 3) := by decide +kernel
theorem dX3_init_19 : decode cX3_init 19 = .ok (.dup, 1) := by decide +kernel
theorem dX3_init_20 : decode cX3_init 20 = .ok (.invokespecial 20, 3) := by decide +kernel
theorem dX3_init_23 : decode cX3_init 23 = .ok (.putfield 21, 3) := by decide +kernel
theorem dX3_init_26 : decode cX3_init 26 = .ok (.aload_n 0, 1) := by decide +kernel
theorem dX3_init_27 : decode cX3_init 27 = .ok (.sipush 4096, 3) := by decide +kernel
theorem dX3_init_30 : decode cX3_init 30 = .ok (.newarray .int, 2) := by decide +kernel
theorem dX3_init_32 : decode cX3_init 32 = .ok (.putfield 25, 3) := by decide +kernel
theorem dX3_init_35 : decode cX3_init 35 = .ok (.aload_n 0, 1) := by decide +kernel
theorem dX3_init_36 : decode cX3_init 36 = .ok (.sipush 16000, 3) := by decide +kernel
theorem dX3_init_39 : decode cX3_init 39 = .ok (.newarray .int, 2) := by decide +kernel
theorem dX3_init_41 : decode cX3_init 41 = .ok (.putfield 29, 3) := by decide +kernel
theorem dX3_init_44 : decode cX3_init 44 = .ok (.aload_n 0, 1) := by decide +kernel
theorem dX3_init_45 : decode cX3_init 45 = .ok (.bipush 64, 2) := by decide +kernel
theorem dX3_init_47 : decode cX3_init 47 = .ok (.newarray .int, 2) := by decide +kernel
theorem dX3_init_49 : decode cX3_init 49 = .ok (.putfield 32, 3) := by decide +kernel
theorem dX3_init_52 : decode cX3_init 52 = .ok (.aload_n 0, 1) := by decide +kernel
theorem dX3_init_53 : decode cX3_init 53 = .ok (.bipush 64, 2) := by decide +kernel
theorem dX3_init_55 : decode cX3_init 55 = .ok (.newarray .int, 2) := by decide +kernel
theorem dX3_init_57 : decode cX3_init 57 = .ok (.putfield 35, 3) := by decide +kernel
theorem dX3_init_60 : decode cX3_init 60 = .ok (.aload_n 0, 1) := by decide +kernel
theorem dX3_init_61 : decode cX3_init 61 = .ok (.sipush 1608, 3) := by decide +kernel
theorem dX3_init_64 : decode cX3_init 64 = .ok (.newarray .int, 2) := by decide +kernel
theorem dX3_init_66 : decode cX3_init 66 = .ok (.putfield 38, 3) := by decide +kernel
theorem dX3_init_69 : decode cX3_init 69 = .ok (.aload_n 0, 1) := by decide +kernel
theorem dX3_init_70 : decode cX3_init 70 = .ok (.aload_n 1, 1) := by decide +kernel
theorem dX3_init_71 : decode cX3_init 71 = .ok (.putfield 41, 3) := by decide +kernel
theorem dX3_init_74 : decode cX3_init 74 = .ok (.aload_n 0, 1) := by decide +kernel
theorem dX3_init_75 : decode cX3_init 75 = .ok (.aload_n 2, 1) := by decide +kernel
theorem dX3_init_76 : decode cX3_init 76 = .ok (.putfield 45, 3) := by decide +kernel
theorem dX3_init_79 : decode cX3_init 79 = .ok (.aload_n 0, 1) := by decide +kernel
theorem dX3_init_80 : decode cX3_init 80 = .ok (.aload_n 0, 1) := by decide +kernel
theorem dX3_init_81 : decode cX3_init 81 = .ok (.getfield 21, 3) := by decide +kernel
theorem dX3_init_84 : decode cX3_init 84 = .ok (.getfield 49, 3) := by decide +kernel
theorem dX3_init_87 : decode cX3_init 87 = .ok (.iconst 0, 1) := by decide +kernel
theorem dX3_init_88 : decode cX3_init 88 = .ok (.aaload, 1) := by decide +kernel
theorem dX3_init_89 : decode cX3_init 89 = .ok (.putfield 53, 3) := by decide +kernel
theorem dX3_init_92 : decode cX3_init 92 = .ok (.return_, 1) := by decide +kernel
set_option maxHeartbeats 4000000 in
set_option maxRecDepth 100000 in
/-- the loop of Hall(): a process at every place -/
theorem hall_loop {p : Program} {l : Launch} {e : Env} {R : Room} {s : State} {m : MethodId} {args : Array Value} {below : List Frame} {meth : Method} {c : Code} {Q : State → Prop} {dC : Nat → ClassId} {dI : Nat → Nat → Nat} {A : Nat → Prop} {h0 qp qo : Nat} {cp co : ClassId} {fs : List Value} {k0 : Cond}
    (hx : p.tables.exec = Jvm.exec) (hb : c.code = cX1_init) (hml : c.maxLocals = 2) (hts : ∀ w ∈ k0 :: wP, w.before args s = true) (hown : s.vm.findClass RX1 = some m.cls) (hA : ∀ q : Nat, s.heap.size ≤ q → A q) (hJ : kJ 16 [(1, .ref qo), (0, .ref qp)] fs) (hK : va_K (dC, dI) vwCl [(cp, .object RX5), (co, .int)] s) (hRf : 2 ≤ R.frames) (hRl : 33 ≤ R.locals) (C0 S0 : Nat) (hrc : C0 + 3 * 80 ≤ R.cells) (hrs : S0 + 65 * 80 ≤ R.slots)
    (kk : ∀ (H1 : Heap) (locs1 : List Loc) (f : Nat → Option Nat) (g : Nat → Int32) (ls : Array Slot), (∃ q, f 0 = some q) → va_P (dC, dI) vwCl [(h0, .inr (1, fs)), (qp, .inl (cp, 80, .inr (.inr (.inr (.inr f))))), (qo, .inl (co, 80, .inl g))] H1 → va_D A [(h0, .inr (1, fs)), (qp, .inl (cp, 80, .inr (.inr (.inr (.inr f))))), (qo, .inl (co, 80, .inl g))] → va_S A s.heap H1 locs1 → W p l e R s m args below meth c H1 locs1 (C0 + 3 * 80) (S0 + 65 * 80) Q (F0 m 92 ls [])) :
    ∀ (n i : Nat), i + n = 80 → ∀ (H : Heap) (locs : List Loc) (f : Nat → Option Nat) (g : Nat → Int32) (ls : Array Slot), (0 < i → ∃ q, f 0 = some q) → va_P (dC, dI) vwCl [(h0, .inr (1, fs)), (qp, .inl (cp, 80, .inr (.inr (.inr (.inr f))))), (qo, .inl (co, 80, .inl g))] H → va_D A [(h0, .inr (1, fs)), (qp, .inl (cp, 80, .inr (.inr (.inr (.inr f))))), (qo, .inl (co, 80, .inl g))] → va_S A s.heap H locs → lv_has ls 2 [(1, .int (nI i)), (0, .ref h0)] → W p l e R s m args below meth c H locs (C0 + 3 * i) (S0 + 65 * i) Q (F0 m 59 ls []) := by
  intro n
  induction n with
  | zero =>
    intro i hi H locs f g ls hf hP hD hS hl
    have hi : i = 80 := by omega
    subst hi
    refine lv_iload_n hx hb dX1_init_59 rfl (lv_at hl 0 rfl) ?_
    refine lv_bipush (v := 80) hx hb dX1_init_60 (by decide) ?_
    refine lv_icmp_ge (tgt := 92) hx hb dX1_init_62 (by decide) (fun _ => ?_) (fun h => absurd (by decide) h)
    exact kk H locs f g ls (hf (by decide)) hP hD hS
  | succ n ih =>
    intro i hi H locs f g ls hf hP hD hS hl
    refine lv_iload_n hx hb dX1_init_59 rfl (lv_at hl 0 rfl) ?_
    refine lv_bipush (v := 80) hx hb dX1_init_60 (by decide) ?_
    refine lv_icmp_ge (tgt := 92) hx hb dX1_init_62 (by decide) (fun h => absurd h (nI_ge (b := 80) (by omega) (by decide))) (fun _ => ?_)
    refine lv_aload_n hx hb dX1_init_65 rfl (lv_at hl 1 rfl) ?_
    refine va_get (D := (dC, dI)) (ci := 1) (v := .ref qp) (C := RX1) (T := TX1) (N := 16) hx hb hts iX1 hown hK hP 0 rfl rfl 0 (by decide) (hts _ (bP 304 rfl)) (fun _ h9 => h9) (kJ_at hJ 1 rfl) dX1_init_66 ?_
    refine lv_iload_n hx hb dX1_init_69 rfl (lv_at hl 0 rfl) ?_
    refine va_new (ci := 5) (fs := [.int 0, .int 0, .int 0, .int 0, .int 0, .int 0, .int 0, .int 0, .int 0, .int 0, .int 0, .null, .int 0, .int 0, .int 0, .null, .int 0]) (C := RX5) (T := TX5) (N := 17) hx hb hts iX5 tyX5 tyX5_ok hown (hts _ (bP 305 rfl)) (hts _ (bP 306 rfl)) (hts _ (bP 307 rfl)) hK hP hD hS hA rfl (fun j hj => by match j, hj with | 0, _ => rfl | 1, _ => rfl | 2, _ => rfl | 3, _ => rfl | 4, _ => rfl | 5, _ => rfl | 6, _ => rfl | 7, _ => rfl | 8, _ => rfl | 9, _ => rfl | 10, _ => rfl | 11, _ => rfl | 12, _ => rfl | 13, _ => rfl | 14, _ => rfl | 15, _ => rfl | 16, _ => rfl | j + 17, h => exact absurd h (by omega)) (by omega) (by omega) dX1_init_70 (fun o1 H hP hD hS => ?_)
    obtain ⟨g1, hg1⟩ : ∃ z : List Value, z = [.int 0, .int 0, .int 0, .int 0, .int 0, .int 0, .int 0, .int 0, .int 0, .int 0, .int 0, .null, .int 0, .int 0, .int 0, .null, .int 0] := ⟨_, rfl⟩
    rw [← hg1] at hP hD
    have hG1 : kJ 17 [] g1 := ⟨by rw [hg1]; rfl, fun x hx => absurd hx List.not_mem_nil⟩
    clear hg1
    have hP : va_P (dC, dI) vwCl [(h0, .inr (1, fs)), (qp, .inl (cp, 80, .inr (.inr (.inr (.inr f))))), (qo, .inl (co, 80, .inl g)), (o1, .inr (5, g1))] H := hP
    have hD : va_D A [(h0, .inr (1, fs)), (qp, .inl (cp, 80, .inr (.inr (.inr (.inr f))))), (qo, .inl (co, 80, .inl g)), (o1, .inr (5, g1))] := hD
    refine lv_dup hx hb dX1_init_73 rfl ?_
    refine lv_iload_n hx hb dX1_init_74 rfl (lv_at hl 0 rfl) ?_
    have hPc := hP.sub (ws' := [(o1, .inr (5, g1))]) [3] rfl
    have hDc := hD.sub (ws' := [(o1, .inr (5, g1))]) [3] (by decide) rfl
    have hKc := hK.sub (tys' := []) [] rfl
    have hFc := va_free (wc := [(o1, .inr (5, g1))]) hD hS hA [3] rfl
    refine va_callv (va_runI (As := [.int (nI i)]) (rest := [.ref o1, .int (nI i), .ref qp]) ⟨hx, hb, hml, hown, hts⟩ (c_Proc_init l dC dI o1 H.size g1 (nI i)) (cwI 1 hts (gP _ 206 rfl) rfl rfl rfl (hts _ (bP 307 rfl)) (hts _ (bP 308 rfl)) (hts _ (bP 309 rfl)) rfl (by decide +kernel) ⟨hRf, hRl⟩) ⟨fun a U g mk q => by obtain ⟨q0, q1, qJ, qP, qK, qD⟩ := q; exact ⟨q0, q1, qJ, qP, va_K.moved (u := U) (U := U.calling g mk a) (Vm.Alike.refl U.vm) qK, qD⟩, fun U hU hW => ⟨rfl, by rw [hU], kJ_sub hG1 (by simp), by rw [hU]; exact hPc, va_K.moved hW.alike hKc, hDc.weaken (fun _ _ _ _ => trivial)⟩⟩ rfl rfl hl.1 rfl (lv_room (Nat.le_of_ble_eq_true rfl)) dX1_init_75 ⟨by omega, by omega⟩) hS (fun q _ h => hFc q h) hFc (fun u t H1 locs ht hvm hw hB hz1 hk1 hS => ?_)
    obtain ⟨gP_, hgP⟩ : ∃ z, z = u := ⟨_, rfl⟩
    rw [← hgP] at hB
    clear hgP hw
    obtain ⟨hP1, hK1, hD1⟩ := hB
    rw [ht] at hP1
    have hK1 := va_K.moved hvm.symm hK1
    obtain ⟨hP, hD⟩ := va_join (wr := [(h0, .inr (1, fs)), (qp, .inl (cp, 80, .inr (.inr (.inr (.inr f))))), (qo, .inl (co, 80, .inl g))]) (w1 := [(o1, .inr (5, gP_))]) hP hD [3] [0, 1, 2] rfl rfl (by decide) (by decide) hk1 hFc hP1 hD1
    have hK := (hK.sub (tys' := [(cp, .object RX5), (co, .int)]) [0, 1] rfl).app hK1
    clear hPc hDc hKc hFc hP1 hK1 hD1 hk1 hz1
    generalize H1 = H at hP hS ⊢
    have hP : va_P (dC, dI) vwCl [(h0, .inr (1, fs)), (qp, .inl (cp, 80, .inr (.inr (.inr (.inr f))))), (qo, .inl (co, 80, .inl g)), (o1, .inr (5, gP_))] H := hP
    have hD : va_D A [(h0, .inr (1, fs)), (qp, .inl (cp, 80, .inr (.inr (.inr (.inr f))))), (qo, .inl (co, 80, .inl g)), (o1, .inr (5, gP_))] := hD
    have hK : va_K (dC, dI) vwCl [(cp, .object RX5), (co, .int)] s := hK
    refine va_astq (r := (RX5, TX5, 17)) hx hb hK hP hD hS 1 0 3 5 rfl rfl rfl rfl (vp_in_nI (by omega) (by decide)) dX1_init_78 (fun H locs hP hD hS => ?_)
    obtain ⟨f1, hf1⟩ : ∃ z : Nat → Option Nat, z = va_up f (nI i).toNatClampNeg (some o1) := ⟨_, rfl⟩
    rw [← hf1] at hP hD
    have hP : va_P (dC, dI) vwCl [(h0, .inr (1, fs)), (qp, .inl (cp, 80, .inr (.inr (.inr (.inr f1))))), (qo, .inl (co, 80, .inl g)), (o1, .inr (5, gP_))] H := hP
    have hD : va_D A [(h0, .inr (1, fs)), (qp, .inl (cp, 80, .inr (.inr (.inr (.inr f1))))), (qo, .inl (co, 80, .inl g)), (o1, .inr (5, gP_))] := hD
    have hP := hP.sub (ws' := [(h0, .inr (1, fs)), (qp, .inl (cp, 80, .inr (.inr (.inr (.inr f1))))), (qo, .inl (co, 80, .inl g))]) [0, 1, 2] rfl
    have hD := hD.sub (ws' := [(h0, .inr (1, fs)), (qp, .inl (cp, 80, .inr (.inr (.inr (.inr f1))))), (qo, .inl (co, 80, .inl g))]) [0, 1, 2] (by decide) rfl
    have hf0 : ∃ q, f1 0 = some q := by
      rw [hf1, nI_clamp (by omega)]
      by_cases h0i : i = 0
      · subst h0i; exact ⟨_, va_up_s⟩
      · rw [va_up_n (fun h => h0i h.symm)]; exact hf (by omega)
    refine lv_aload_n hx hb dX1_init_79 rfl (lv_at hl 1 rfl) ?_
    refine va_get (D := (dC, dI)) (ci := 1) (v := .ref qo) (C := RX1) (T := TX1) (N := 16) hx hb hts iX1 hown hK hP 0 rfl rfl 1 (by decide) (hts _ (bP 310 rfl)) (fun _ h9 => h9) (kJ_at hJ 0 rfl) dX1_init_80 ?_
    refine lv_iload_n hx hb dX1_init_83 rfl (lv_at hl 0 rfl) ?_
    refine lv_iload_n hx hb dX1_init_84 rfl (lv_at hl 0 rfl) ?_
    refine kq_iast hx hb hK hP hD hS 2 1 rfl rfl (vp_in_nI (by omega) (by decide)) dX1_init_85 (fun H locs g eg hP hD hS => ?_)
    have hP : va_P (dC, dI) vwCl [(h0, .inr (1, fs)), (qp, .inl (cp, 80, .inr (.inr (.inr (.inr f1))))), (qo, .inl (co, 80, .inl g))] H := hP
    have hD : va_D A [(h0, .inr (1, fs)), (qp, .inl (cp, 80, .inr (.inr (.inr (.inr f1))))), (qo, .inl (co, 80, .inl g))] := hD
    refine lv_iinc (v := nI (i + 1)) (lv' := [(1, .int (nI (i + 1))), (0, .ref h0)]) hx hb dX1_init_86 hl (k := 0) rfl (nI_1 i) (by decide) rfl (fun ls hl => ?_)
    refine lv_goto (tgt := 59) hx hb dX1_init_89 (by decide) ?_
    refine W.widen (k := C0 + 3 * (i + 1)) (n := S0 + 65 * (i + 1)) (by omega) (by omega) ?_
    exact ih (i + 1) (by omega) H locs f1 g ls (fun _ => hf0) hP hD hS hl
set_option maxHeartbeats 4000000 in
set_option maxRecDepth 100000 in
/-- Hall() -/
theorem c_Hall_init (l : Launch) (dC : Nat → ClassId) (dI : Nat → Nat → Nat) (h0 sz : Nat) (fs : List Value) : Met l yX1_init (.code yX1_init cX1_init 2 none :: wP) ({ frames := 2, cells := 246, slots := 9332, locals := 33 }) (va_Pc [.ref h0] (fun U => U.heap.size = sz ∧ kJ 16 [] fs ∧ va_P (dC, dI) vwCl [(h0, .inr (1, fs))] U.heap ∧ va_K (dC, dI) vwCl [] U ∧ va_D (fun _ => True) [(h0, .inr (1, fs))] ∧ va_AO "MeetingHouse$Proc" U)) (va_Qv (fun v : List Value × Nat × ClassId × (Nat → Option Nat) => match v with | (u, qp, _, f) => kJ 16 [(0, .ref qp)] u ∧ ∃ q, f 0 = some q) (fun (v : List Value × Nat × ClassId × (Nat → Option Nat)) (t : State) => match v with | (u, qp, cp, f) => va_P (dC, dI) vwCl [(h0, .inr (1, u)), (qp, .inl (cp, 80, .inr (.inr (.inr (.inr f)))))] t.heap ∧ va_K (dC, dI) vwCl [(cp, .object RX5)] t ∧ va_D (va_A [(h0, .inr (1, fs))] sz) [(h0, .inr (1, u)), (qp, .inl (cp, 80, .inr (.inr (.inr (.inr f)))))]) (va_A [(h0, .inr (1, fs))] sz)) 246 9332 (va_A [(h0, .inr (1, fs))] sz) := by
  refine Met.ofW (cc := cX1_init) (maxL := 2) (ret := none) (by decide) rfl ?_
  intro p e s m args below meth c s₁ B hml hv
  obtain ⟨rfl, hsz, hJ, hP, hK, hD0, hao⟩ := hv
  have hx := B.exec
  have hb := B.bytes
  have hr := B.returns
  have hts := atoms_spec (ws := .code yX1_init cX1_init 2 none :: wP) B.pre
  have hown : s.vm.findClass RX1 = some m.cls := findClass_of_methodNamed B.named
  subst hsz
  have hD := hD0.self (sz := s.heap.size)
  generalize hAe : va_A [(h0, .inr (1, fs))] s.heap.size = A at hD ⊢
  have hA : ∀ q : Nat, s.heap.size ≤ q → A q := fun q h => by rw [← hAe]; exact Or.inr h
  have hS : va_S A s.heap s.heap [] := va_S.rf
  have hl := lv_entry ([.ref h0]) (n := 2) (Nat.le_of_ble_eq_true rfl)
  rw [lg_entry_eq]
  generalize (lg_sl ([.ref h0]) ++ List.replicate (2 - (lg_sl ([.ref h0])).length) Slot.unset).toArray = ls at hl ⊢
  obtain ⟨H, hHe⟩ : ∃ H, H = s.heap := ⟨_, rfl⟩
  rw [← hHe] at hP ⊢
  have hS : va_S A s.heap H [] := by rw [hHe]; exact hS
  have hin2 : meth.name = "<init>" := (name_of_methodNamed B.named B.method).1
  have hl : lv_has ls 2 [(0, .ref h0)] := hl
  refine lv_aload_n hx hb dX1_init_0 rfl (lv_at hl 0 rfl) ?_
  refine W.objInit hx hb hown (hts _ (bP 312 rfl)) (hts _ (bP 1 rfl)) (hts _ (bP 2 rfl)) rfl (by rw [hml]; exact hl.1) rfl dX1_init_1 (Nat.le_of_ble_eq_true rfl) (Nat.le_of_ble_eq_true rfl) ?_
  refine W.eq (g2 := F0 m 4 ls []) rfl ?_
  refine lv_aload_n hx hb dX1_init_4 rfl (lv_at hl 0 rfl) ?_
  refine lv_bipush (v := 80) hx hb dX1_init_5 (by decide) ?_
  refine va_newq (C := RX5) (N' := 80) hx hb hown (hts _ (bP 305 rfl)) hao hK hP hD hS hA (by decide) (by decide) (by decide) (Nat.le_of_ble_eq_true rfl) (Nat.le_of_ble_eq_true rfl) dX1_init_7 (fun qp cp H hK hP hD hS => ?_)
  have hP : va_P (dC, dI) vwCl [(h0, .inr (1, fs)), (qp, .inl (cp, 80, .inr (.inr (.inr (.inr (fun _ => none))))))] H := hP
  have hD : va_D A [(h0, .inr (1, fs)), (qp, .inl (cp, 80, .inr (.inr (.inr (.inr (fun _ => none))))))] := hD
  have hK : va_K (dC, dI) vwCl [(cp, .object RX5)] s := hK
  refine kq_putF [(0, .ref qp)] hts iX1 tyX1 tyX1_ok nmX1 hx hb hown hin2 hK hP hD hS 0 rfl rfl hJ 0 (by decide) (by decide) rfl (hts _ (bP 304 rfl)) rfl (ty := .array (.object "MeetingHouse$Proc")) (by decide +kernel) (v := .ref qp) rfl rfl dX1_init_10 (fun f h => kJ_put h _ _ (by decide)) (fun H locs fs hJ hP hD hS => ?_)
  have hP : va_P (dC, dI) vwCl [(h0, .inr (1, fs)), (qp, .inl (cp, 80, .inr (.inr (.inr (.inr (fun _ => none))))))] H := hP
  have hD : va_D A [(h0, .inr (1, fs)), (qp, .inl (cp, 80, .inr (.inr (.inr (.inr (fun _ => none))))))] := hD
  refine lv_aload_n hx hb dX1_init_13 rfl (lv_at hl 0 rfl) ?_
  refine lv_bipush (v := 80) hx hb dX1_init_14 (by decide) ?_
  refine va_newa (ty := .int) (a0 := (80, .inl (fun _ => 0))) hx hb (hts _ (bP 7 rfl)) rfl hK hP hD hS hA (fun _ => rfl) (by decide) (by decide) (by decide) (Nat.le_of_ble_eq_true rfl) (Nat.le_of_ble_eq_true rfl) dX1_init_16 (fun qo co H hK hP hD hS => ?_)
  have hP : va_P (dC, dI) vwCl [(h0, .inr (1, fs)), (qp, .inl (cp, 80, .inr (.inr (.inr (.inr (fun _ => none)))))), (qo, .inl (co, 80, .inl (fun _ => 0)))] H := hP
  have hD : va_D A [(h0, .inr (1, fs)), (qp, .inl (cp, 80, .inr (.inr (.inr (.inr (fun _ => none)))))), (qo, .inl (co, 80, .inl (fun _ => 0)))] := hD
  have hK : va_K (dC, dI) vwCl [(cp, .object RX5), (co, .int)] s := hK
  refine kq_putF [(1, .ref qo), (0, .ref qp)] hts iX1 tyX1 tyX1_ok nmX1 hx hb hown hin2 hK hP hD hS 0 rfl rfl hJ 1 (by decide) (by decide) rfl (hts _ (bP 310 rfl)) rfl (ty := .array .int) (by decide +kernel) (v := .ref qo) rfl rfl dX1_init_18 (fun f h => kJ_put h _ _ (by decide)) (fun H locs fs hJ hP hD hS => ?_)
  have hP : va_P (dC, dI) vwCl [(h0, .inr (1, fs)), (qp, .inl (cp, 80, .inr (.inr (.inr (.inr (fun _ => none)))))), (qo, .inl (co, 80, .inl (fun _ => 0)))] H := hP
  have hD : va_D A [(h0, .inr (1, fs)), (qp, .inl (cp, 80, .inr (.inr (.inr (.inr (fun _ => none)))))), (qo, .inl (co, 80, .inl (fun _ => 0)))] := hD
  refine lv_aload_n hx hb dX1_init_21 rfl (lv_at hl 0 rfl) ?_
  refine lv_sipush (v := 2000) hx hb dX1_init_22 (by decide) ?_
  refine k_newa (N' := 2000) hx hb (hts _ (bP 293 rfl)) hP hD hS (by decide) (by decide) (by decide) (Nat.le_of_ble_eq_true rfl) (Nat.le_of_ble_eq_true rfl) dX1_init_25 (fun n1 H hP hD hS => ?_)
  refine kq_putF [(1, .ref qo), (0, .ref qp)] hts iX1 tyX1 tyX1_ok nmX1 hx hb hown hin2 hK hP hD hS 0 rfl rfl hJ 7 (by decide) (by decide) rfl (hts _ (bP 313 rfl)) rfl (ty := .array .byte) (by decide +kernel) (v := .ref n1) rfl rfl dX1_init_27 (fun f h => kJ_set h _ _ rfl) (fun H locs fs hJ hP hD hS => ?_)
  have hP : va_P (dC, dI) vwCl [(h0, .inr (1, fs)), (qp, .inl (cp, 80, .inr (.inr (.inr (.inr (fun _ => none)))))), (qo, .inl (co, 80, .inl (fun _ => 0)))] H := hP
  have hD : va_D A [(h0, .inr (1, fs)), (qp, .inl (cp, 80, .inr (.inr (.inr (.inr (fun _ => none)))))), (qo, .inl (co, 80, .inl (fun _ => 0)))] := hD
  refine lv_aload_n hx hb dX1_init_30 rfl (lv_at hl 0 rfl) ?_
  refine lv_sipush (v := 500) hx hb dX1_init_31 (by decide) ?_
  refine k_newa (N' := 500) hx hb (hts _ (bP 7 rfl)) hP hD hS (by decide) (by decide) (by decide) (Nat.le_of_ble_eq_true rfl) (Nat.le_of_ble_eq_true rfl) dX1_init_34 (fun n2 H hP hD hS => ?_)
  refine kq_putF [(1, .ref qo), (0, .ref qp)] hts iX1 tyX1 tyX1_ok nmX1 hx hb hown hin2 hK hP hD hS 0 rfl rfl hJ 9 (by decide) (by decide) rfl (hts _ (bP 314 rfl)) rfl (ty := .array .int) (by decide +kernel) (v := .ref n2) rfl rfl dX1_init_36 (fun f h => kJ_set h _ _ rfl) (fun H locs fs hJ hP hD hS => ?_)
  have hP : va_P (dC, dI) vwCl [(h0, .inr (1, fs)), (qp, .inl (cp, 80, .inr (.inr (.inr (.inr (fun _ => none)))))), (qo, .inl (co, 80, .inl (fun _ => 0)))] H := hP
  have hD : va_D A [(h0, .inr (1, fs)), (qp, .inl (cp, 80, .inr (.inr (.inr (.inr (fun _ => none)))))), (qo, .inl (co, 80, .inl (fun _ => 0)))] := hD
  refine lv_aload_n hx hb dX1_init_39 rfl (lv_at hl 0 rfl) ?_
  refine lv_sipush (v := 1024) hx hb dX1_init_40 (by decide) ?_
  refine k_newa (N' := 1024) hx hb (hts _ (bP 7 rfl)) hP hD hS (by decide) (by decide) (by decide) (Nat.le_of_ble_eq_true rfl) (Nat.le_of_ble_eq_true rfl) dX1_init_43 (fun n3 H hP hD hS => ?_)
  refine kq_putF [(1, .ref qo), (0, .ref qp)] hts iX1 tyX1 tyX1_ok nmX1 hx hb hown hin2 hK hP hD hS 0 rfl rfl hJ 12 (by decide) (by decide) rfl (hts _ (bP 315 rfl)) rfl (ty := .array .int) (by decide +kernel) (v := .ref n3) rfl rfl dX1_init_45 (fun f h => kJ_set h _ _ rfl) (fun H locs fs hJ hP hD hS => ?_)
  have hP : va_P (dC, dI) vwCl [(h0, .inr (1, fs)), (qp, .inl (cp, 80, .inr (.inr (.inr (.inr (fun _ => none)))))), (qo, .inl (co, 80, .inl (fun _ => 0)))] H := hP
  have hD : va_D A [(h0, .inr (1, fs)), (qp, .inl (cp, 80, .inr (.inr (.inr (.inr (fun _ => none)))))), (qo, .inl (co, 80, .inl (fun _ => 0)))] := hD
  refine lv_aload_n hx hb dX1_init_48 rfl (lv_at hl 0 rfl) ?_
  refine lv_sipush (v := 448) hx hb dX1_init_49 (by decide) ?_
  refine k_newa (N' := 448) hx hb (hts _ (bP 7 rfl)) hP hD hS (by decide) (by decide) (by decide) (Nat.le_of_ble_eq_true rfl) (Nat.le_of_ble_eq_true rfl) dX1_init_52 (fun n4 H hP hD hS => ?_)
  refine kq_putF [(1, .ref qo), (0, .ref qp)] hts iX1 tyX1 tyX1_ok nmX1 hx hb hown hin2 hK hP hD hS 0 rfl rfl hJ 14 (by decide) (by decide) rfl (hts _ (bP 316 rfl)) rfl (ty := .array .int) (by decide +kernel) (v := .ref n4) rfl rfl dX1_init_54 (fun f h => kJ_set h _ _ rfl) (fun H locs fs hJ hP hD hS => ?_)
  have hP : va_P (dC, dI) vwCl [(h0, .inr (1, fs)), (qp, .inl (cp, 80, .inr (.inr (.inr (.inr (fun _ => none)))))), (qo, .inl (co, 80, .inl (fun _ => 0)))] H := hP
  have hD : va_D A [(h0, .inr (1, fs)), (qp, .inl (cp, 80, .inr (.inr (.inr (.inr (fun _ => none)))))), (qo, .inl (co, 80, .inl (fun _ => 0)))] := hD
  refine lv_iconst (v := 0) hx hb dX1_init_57 (by decide) ?_
  refine lv_istore_n (lv' := [(1, .int 0), (0, .ref h0)]) hx hb dX1_init_58 rfl hl (by decide) rfl (fun ls hl => ?_)
  refine W.widen (k := 6 + 3 * 0) (n := 4132 + 65 * 0) (Nat.le_of_ble_eq_true rfl) (Nat.le_of_ble_eq_true rfl) ?_
  refine hall_loop hx hb hml hts hown hA hJ hK (by decide) (by decide) 6 4132 (Nat.le_of_ble_eq_true rfl) (Nat.le_of_ble_eq_true rfl) (fun H locs f g ls hf hP hD hS => ?_) 80 0 rfl H locs _ _ ls (fun h => absurd h (by decide)) hP hD hS hl
  refine W.widen (k := 246) (n := 9332) (Nat.le_of_ble_eq_true rfl) (Nat.le_of_ble_eq_true rfl) ?_
  have hPq := hP.sub (ws' := [(h0, .inr (1, fs)), (qp, .inl (cp, 80, .inr (.inr (.inr (.inr f)))))]) [0, 1] rfl
  have hDq := hD.sub (ws' := [(h0, .inr (1, fs)), (qp, .inl (cp, 80, .inr (.inr (.inr (.inr f)))))]) [0, 1] (by decide) rfl
  have hKq := hK.sub (tys' := [(cp, .object RX5)]) [0] rfl
  exact W.vret hx hb hr (fun t ht hW => ⟨⟨(fs, qp, cp, f), rfl, ⟨kJ_sub hJ (by simp), hf⟩, by rw [ht]; exact hPq, va_K.moved hW.alike hKq, hDq⟩, hS.F ht⟩) hS.2.2 dX1_init_92
set_option maxHeartbeats 4000000 in
set_option maxRecDepth 100000 in
/-- Machine() -/
theorem c_Machine_init (l : Launch) (dC : Nat → ClassId) (dI : Nat → Nat → Nat) (h0 sz : Nat) (fs : List Value) (a1 : Nat) (a2 : Nat) : Met l yX3_init (.code yX3_init cX3_init 3 none :: wP) ({ frames := 3, cells := 260, slots := 38361, locals := 60 }) (va_Pc [.ref h0, .ref a1, .ref a2] (fun U => U.heap.size = sz ∧ kJ 21 [(0, .int 0)] fs ∧ va_P (dC, dI) vwCl [(h0, .inr (3, fs))] U.heap ∧ va_K (dC, dI) vwCl [] U ∧ va_D (fun _ => True) [(h0, .inr (3, fs))] ∧ va_AO "MeetingHouse$Proc" U ∧ va_Nw (.methodLinkNest RX3 11 yX2_init RX11) U)) (va_Qv (fun u : List Value => kJ 21 [(0, .int 0)] u) (fun (u : List Value) (t : State) => va_P (dC, dI) vwCl [(h0, .inr (3, u))] t.heap ∧ va_K (dC, dI) vwCl [] t ∧ va_D (va_A [(h0, .inr (3, fs))] sz) [(h0, .inr (3, u))]) (va_A [(h0, .inr (3, fs))] sz)) 260 38361 (va_A [(h0, .inr (3, fs))] sz) := by
  refine Met.ofW (cc := cX3_init) (maxL := 3) (ret := none) (by decide) rfl ?_
  intro p e s m args below meth c s₁ B hml hv
  obtain ⟨rfl, hsz, hJ, hP, hK, hD0, hao, hnH⟩ := hv
  have hx := B.exec
  have hb := B.bytes
  have hr := B.returns
  have hts := atoms_spec (ws := .code yX3_init cX3_init 3 none :: wP) B.pre
  have hown : s.vm.findClass RX3 = some m.cls := findClass_of_methodNamed B.named
  subst hsz
  have hD := hD0.self (sz := s.heap.size)
  generalize hAe : va_A [(h0, .inr (3, fs))] s.heap.size = A at hD ⊢
  have hA : ∀ q : Nat, s.heap.size ≤ q → A q := fun q h => by rw [← hAe]; exact Or.inr h
  have hS : va_S A s.heap s.heap [] := va_S.rf
  have hl := lv_entry ([.ref h0, .ref a1, .ref a2]) (n := 3) (Nat.le_of_ble_eq_true rfl)
  rw [lg_entry_eq]
  generalize (lg_sl ([.ref h0, .ref a1, .ref a2]) ++ List.replicate (3 - (lg_sl ([.ref h0, .ref a1, .ref a2])).length) Slot.unset).toArray = ls at hl ⊢
  obtain ⟨H, hHe⟩ : ∃ H, H = s.heap := ⟨_, rfl⟩
  rw [← hHe] at hP ⊢
  have hS : va_S A s.heap H [] := by rw [hHe]; exact hS
  have hin2 : meth.name = "<init>" := (name_of_methodNamed B.named B.method).1
  have hl : lv_has ls 3 [(0, .ref h0), (1, .ref a1), (2, .ref a2)] := hl
  refine lv_aload_n hx hb dX3_init_0 rfl (lv_at hl 0 rfl) ?_
  refine W.objInit hx hb hown (hts _ (bP 318 rfl)) (hts _ (bP 1 rfl)) (hts _ (bP 2 rfl)) rfl (by rw [hml]; exact hl.1) rfl dX3_init_1 (Nat.le_of_ble_eq_true rfl) (Nat.le_of_ble_eq_true rfl) ?_
  refine W.eq (g2 := F0 m 4 ls []) rfl ?_
  refine lv_aload_n hx hb dX3_init_4 rfl (lv_at hl 0 rfl) ?_
  refine va_new (ci := 2) (fs := [.int 0, .null, .null, .null, .null, .null, .null, .null, .int 0, .int 0, .int 0, .int 0, .int 0]) (C := RX2) (T := TX2) (N := 13) hx hb hts iX2 tyX2 tyX2_ok hown (hts _ (bP 319 rfl)) (hts _ (bP 320 rfl)) (hts _ (bP 321 rfl)) hK hP hD hS hA rfl (fun j hj => by match j, hj with | 0, _ => rfl | 1, _ => rfl | 2, _ => rfl | 3, _ => rfl | 4, _ => rfl | 5, _ => rfl | 6, _ => rfl | 7, _ => rfl | 8, _ => rfl | 9, _ => rfl | 10, _ => rfl | 11, _ => rfl | 12, _ => rfl | j + 13, h => exact absurd h (by omega)) (Nat.le_of_ble_eq_true rfl) (Nat.le_of_ble_eq_true rfl) dX3_init_5 (fun o1 H hP hD hS => ?_)
  obtain ⟨g1, hg1⟩ : ∃ z : List Value, z = [.int 0, .null, .null, .null, .null, .null, .null, .null, .int 0, .int 0, .int 0, .int 0, .int 0] := ⟨_, rfl⟩
  rw [← hg1] at hP hD
  have hG1 : kJ 13 [] g1 := ⟨by rw [hg1]; rfl, fun x hx => absurd hx List.not_mem_nil⟩
  clear hg1
  have hP : va_P (dC, dI) vwCl [(h0, .inr (3, fs)), (o1, .inr (2, g1))] H := hP
  have hD : va_D A [(h0, .inr (3, fs)), (o1, .inr (2, g1))] := hD
  refine lv_dup hx hb dX3_init_8 rfl ?_
  have hPc := hP.sub (ws' := [(o1, .inr (2, g1))]) [1] rfl
  have hDc := hD.sub (ws' := [(o1, .inr (2, g1))]) [1] (by decide) rfl
  have hKc := hK.sub (tys' := []) [] rfl
  have hFc := va_free (wc := [(o1, .inr (2, g1))]) hD hS hA [1] rfl
  refine va_callv (va_runIN (As := []) (rest := [.ref o1, .ref h0]) ⟨hx, hb, hml, hown, hts⟩ (c_Heap_init l dC dI o1 H.size g1) (⟨va_cnB 0 hts (gP _ 211 rfl) rfl rfl rfl hnH (hts _ (bP 321 rfl)) (by decide +kernel) ⟨Nat.le_of_ble_eq_true rfl, Nat.le_of_ble_eq_true rfl⟩, rfl, hts _ (bP 322 rfl)⟩) ⟨fun a U g mk q => by obtain ⟨q0, q1, qJ, qP, qK, qD⟩ := q; exact ⟨q0, q1, qJ, qP, va_K.moved (u := U) (U := U.calling g mk a) (Vm.Alike.refl U.vm) qK, qD⟩, fun U hU hW => ⟨rfl, by rw [hU], kJ_sub hG1 (by simp), by rw [hU]; exact hPc, va_K.moved hW.alike hKc, hDc.weaken (fun _ _ _ _ => trivial)⟩⟩ rfl rfl hl.1 rfl (lv_room (Nat.le_of_ble_eq_true rfl)) dX3_init_9 ⟨Nat.le_of_ble_eq_true rfl, Nat.le_of_ble_eq_true rfl⟩) hS (fun q _ h => hFc q h) hFc (fun u t H1 locs ht hvm hw hB hz1 hk1 hS => ?_)
  obtain ⟨hP, hD⟩ := va_join (wr := [(h0, .inr (3, fs))]) (w1 := []) hP hD [1] [0] rfl rfl (by decide) (by decide) hk1 hFc (fun k q h => by simp at h) ⟨fun i j p q h => by simp at h, fun k q h => by simp at h⟩
  clear hPc hDc hKc hFc hk1 hz1 hB hw
  generalize H1 = H at hP hS ⊢
  have hP : va_P (dC, dI) vwCl [(h0, .inr (3, fs))] H := hP
  have hD : va_D A [(h0, .inr (3, fs))] := hD
  refine kq_putF [(0, .int 0)] hts iX3 tyX3 tyX3_ok nmX3 hx hb hown hin2 hK hP hD hS 0 rfl rfl hJ 4 (by decide) (by decide) rfl (hts _ (bP 323 rfl)) rfl (ty := .object "MeetingHouse$Heap") (by decide +kernel) (v := .ref o1) rfl rfl dX3_init_12 (fun f h => kJ_set h _ _ rfl) (fun H locs fs hJ hP hD hS => ?_)
  have hP : va_P (dC, dI) vwCl [(h0, .inr (3, fs))] H := hP
  have hD : va_D A [(h0, .inr (3, fs))] := hD
  refine lv_aload_n hx hb dX3_init_15 rfl (lv_at hl 0 rfl) ?_
  refine va_new (ci := 1) (fs := [.null, .null, .int 0, .int 0, .int 0, .int 0, .int 0, .null, .int 0, .null, .int 0, .int 0, .null, .int 0, .null, .int 0]) (C := RX1) (T := TX1) (N := 16) hx hb hts iX1 tyX1 tyX1_ok hown (hts _ (bP 324 rfl)) (hts _ (bP 325 rfl)) (hts _ (bP 326 rfl)) hK hP hD hS hA rfl (fun j hj => by match j, hj with | 0, _ => rfl | 1, _ => rfl | 2, _ => rfl | 3, _ => rfl | 4, _ => rfl | 5, _ => rfl | 6, _ => rfl | 7, _ => rfl | 8, _ => rfl | 9, _ => rfl | 10, _ => rfl | 11, _ => rfl | 12, _ => rfl | 13, _ => rfl | 14, _ => rfl | 15, _ => rfl | j + 16, h => exact absurd h (by omega)) (Nat.le_of_ble_eq_true rfl) (Nat.le_of_ble_eq_true rfl) dX3_init_16 (fun o2 H hP hD hS => ?_)
  obtain ⟨g2, hg2⟩ : ∃ z : List Value, z = [.null, .null, .int 0, .int 0, .int 0, .int 0, .int 0, .null, .int 0, .null, .int 0, .int 0, .null, .int 0, .null, .int 0] := ⟨_, rfl⟩
  rw [← hg2] at hP hD
  have hG2 : kJ 16 [] g2 := ⟨by rw [hg2]; rfl, fun x hx => absurd hx List.not_mem_nil⟩
  clear hg2
  have hP : va_P (dC, dI) vwCl [(h0, .inr (3, fs)), (o2, .inr (1, g2))] H := hP
  have hD : va_D A [(h0, .inr (3, fs)), (o2, .inr (1, g2))] := hD
  refine lv_dup hx hb dX3_init_19 rfl ?_
  have hPc := hP.sub (ws' := [(o2, .inr (1, g2))]) [1] rfl
  have hDc := hD.sub (ws' := [(o2, .inr (1, g2))]) [1] (by decide) rfl
  have hKc := hK.sub (tys' := []) [] rfl
  have hFc := va_free (wc := [(o2, .inr (1, g2))]) hD hS hA [1] rfl
  refine va_callv (va_runI (As := []) (rest := [.ref o2, .ref h0]) ⟨hx, hb, hml, hown, hts⟩ (c_Hall_init l dC dI o2 H.size g2) (cwI 0 hts (gP _ 311 rfl) rfl rfl rfl (hts _ (bP 326 rfl)) (hts _ (bP 327 rfl)) (hts _ (bP 328 rfl)) rfl (by decide +kernel) ⟨Nat.le_of_ble_eq_true rfl, Nat.le_of_ble_eq_true rfl⟩) ⟨fun a U g mk q => by obtain ⟨q0, q1, qJ, qP, qK, qD, hao⟩ := q; exact ⟨q0, q1, qJ, qP, va_K.moved (u := U) (U := U.calling g mk a) (Vm.Alike.refl U.vm) qK, qD, va_AO.moved (u := U) (U := U.calling g mk a) (Vm.Alike.refl U.vm) hao⟩, fun U hU hW => ⟨rfl, by rw [hU], kJ_sub hG2 (by simp), by rw [hU]; exact hPc, va_K.moved hW.alike hKc, hDc.weaken (fun _ _ _ _ => trivial), va_AO.moved hW.alike hao⟩⟩ rfl rfl hl.1 rfl (lv_room (Nat.le_of_ble_eq_true rfl)) dX3_init_20 ⟨Nat.le_of_ble_eq_true rfl, Nat.le_of_ble_eq_true rfl⟩) hS (fun q _ h => hFc q h) hFc (fun u t H1 locs ht hvm hw hB hz1 hk1 hS => ?_)
  obtain ⟨gH_, qp, cp, fp⟩ := u
  obtain ⟨hGH, hfp⟩ := hw
  obtain ⟨hP1, hK1, hD1⟩ := hB
  rw [ht] at hP1
  have hK1 := va_K.moved hvm.symm hK1
  obtain ⟨hP, hD⟩ := va_join (wr := [(h0, .inr (3, fs))]) (w1 := [(o2, .inr (1, gH_)), (qp, .inl (cp, 80, .inr (.inr (.inr (.inr fp)))))]) hP hD [1] [0] rfl rfl (by decide) (by decide) hk1 hFc hP1 hD1
  have hK := (hK.sub (tys' := []) [] rfl).app hK1
  clear hPc hDc hKc hFc hP1 hK1 hD1 hk1 hz1
  generalize H1 = H at hP hS ⊢
  have hP : va_P (dC, dI) vwCl [(h0, .inr (3, fs)), (o2, .inr (1, gH_)), (qp, .inl (cp, 80, .inr (.inr (.inr (.inr fp)))))] H := hP
  have hD : va_D A [(h0, .inr (3, fs)), (o2, .inr (1, gH_)), (qp, .inl (cp, 80, .inr (.inr (.inr (.inr fp)))))] := hD
  have hK : va_K (dC, dI) vwCl [(cp, .object RX5)] s := hK
  refine kq_putF [(5, .ref o2), (0, .int 0)] hts iX3 tyX3 tyX3_ok nmX3 hx hb hown hin2 hK hP hD hS 0 rfl rfl hJ 5 (by decide) (by decide) rfl (hts _ (bP 329 rfl)) rfl (ty := .object "MeetingHouse$Hall") (by decide +kernel) (v := .ref o2) rfl rfl dX3_init_23 (fun f h => kJ_put h _ _ (by decide)) (fun H locs fs hJ hP hD hS => ?_)
  have hP : va_P (dC, dI) vwCl [(h0, .inr (3, fs)), (o2, .inr (1, gH_)), (qp, .inl (cp, 80, .inr (.inr (.inr (.inr fp)))))] H := hP
  have hD : va_D A [(h0, .inr (3, fs)), (o2, .inr (1, gH_)), (qp, .inl (cp, 80, .inr (.inr (.inr (.inr fp)))))] := hD
  refine lv_aload_n hx hb dX3_init_26 rfl (lv_at hl 0 rfl) ?_
  refine lv_sipush (v := 4096) hx hb dX3_init_27 (by decide) ?_
  refine k_newa (N' := 4096) hx hb (hts _ (bP 7 rfl)) hP hD hS (by decide) (by decide) (by decide) (Nat.le_of_ble_eq_true rfl) (Nat.le_of_ble_eq_true rfl) dX3_init_30 (fun n3 H hP hD hS => ?_)
  refine kq_put [(5, .ref o2), (0, .int 0)] hts iX3 tyX3 tyX3_ok nmX3 hx hb hown hK hP hD hS 0 rfl rfl hJ 6 (by decide) (by decide) (hts _ (bP 330 rfl)) rfl (ty := .array .int) (by decide +kernel) (v := .ref n3) rfl rfl dX3_init_32 (fun f h => kJ_set h _ _ rfl) (fun H locs fs hJ hP hD hS => ?_)
  have hP : va_P (dC, dI) vwCl [(h0, .inr (3, fs)), (o2, .inr (1, gH_)), (qp, .inl (cp, 80, .inr (.inr (.inr (.inr fp)))))] H := hP
  have hD : va_D A [(h0, .inr (3, fs)), (o2, .inr (1, gH_)), (qp, .inl (cp, 80, .inr (.inr (.inr (.inr fp)))))] := hD
  refine lv_aload_n hx hb dX3_init_35 rfl (lv_at hl 0 rfl) ?_
  refine lv_sipush (v := 16000) hx hb dX3_init_36 (by decide) ?_
  refine k_newa (N' := 16000) hx hb (hts _ (bP 7 rfl)) hP hD hS (by decide) (by decide) (by decide) (Nat.le_of_ble_eq_true rfl) (Nat.le_of_ble_eq_true rfl) dX3_init_39 (fun n4 H hP hD hS => ?_)
  refine kq_putF [(5, .ref o2), (0, .int 0)] hts iX3 tyX3 tyX3_ok nmX3 hx hb hown hin2 hK hP hD hS 0 rfl rfl hJ 8 (by decide) (by decide) rfl (hts _ (bP 331 rfl)) rfl (ty := .array .int) (by decide +kernel) (v := .ref n4) rfl rfl dX3_init_41 (fun f h => kJ_set h _ _ rfl) (fun H locs fs hJ hP hD hS => ?_)
  have hP : va_P (dC, dI) vwCl [(h0, .inr (3, fs)), (o2, .inr (1, gH_)), (qp, .inl (cp, 80, .inr (.inr (.inr (.inr fp)))))] H := hP
  have hD : va_D A [(h0, .inr (3, fs)), (o2, .inr (1, gH_)), (qp, .inl (cp, 80, .inr (.inr (.inr (.inr fp)))))] := hD
  refine lv_aload_n hx hb dX3_init_44 rfl (lv_at hl 0 rfl) ?_
  refine lv_bipush (v := 64) hx hb dX3_init_45 (by decide) ?_
  refine k_newa (N' := 64) hx hb (hts _ (bP 7 rfl)) hP hD hS (by decide) (by decide) (by decide) (Nat.le_of_ble_eq_true rfl) (Nat.le_of_ble_eq_true rfl) dX3_init_47 (fun n5 H hP hD hS => ?_)
  refine kq_putF [(5, .ref o2), (0, .int 0)] hts iX3 tyX3 tyX3_ok nmX3 hx hb hown hin2 hK hP hD hS 0 rfl rfl hJ 18 (by decide) (by decide) rfl (hts _ (bP 332 rfl)) rfl (ty := .array .int) (by decide +kernel) (v := .ref n5) rfl rfl dX3_init_49 (fun f h => kJ_set h _ _ rfl) (fun H locs fs hJ hP hD hS => ?_)
  have hP : va_P (dC, dI) vwCl [(h0, .inr (3, fs)), (o2, .inr (1, gH_)), (qp, .inl (cp, 80, .inr (.inr (.inr (.inr fp)))))] H := hP
  have hD : va_D A [(h0, .inr (3, fs)), (o2, .inr (1, gH_)), (qp, .inl (cp, 80, .inr (.inr (.inr (.inr fp)))))] := hD
  refine lv_aload_n hx hb dX3_init_52 rfl (lv_at hl 0 rfl) ?_
  refine lv_bipush (v := 64) hx hb dX3_init_53 (by decide) ?_
  refine k_newa (N' := 64) hx hb (hts _ (bP 7 rfl)) hP hD hS (by decide) (by decide) (by decide) (Nat.le_of_ble_eq_true rfl) (Nat.le_of_ble_eq_true rfl) dX3_init_55 (fun n6 H hP hD hS => ?_)
  refine kq_putF [(5, .ref o2), (0, .int 0)] hts iX3 tyX3 tyX3_ok nmX3 hx hb hown hin2 hK hP hD hS 0 rfl rfl hJ 19 (by decide) (by decide) rfl (hts _ (bP 333 rfl)) rfl (ty := .array .int) (by decide +kernel) (v := .ref n6) rfl rfl dX3_init_57 (fun f h => kJ_set h _ _ rfl) (fun H locs fs hJ hP hD hS => ?_)
  have hP : va_P (dC, dI) vwCl [(h0, .inr (3, fs)), (o2, .inr (1, gH_)), (qp, .inl (cp, 80, .inr (.inr (.inr (.inr fp)))))] H := hP
  have hD : va_D A [(h0, .inr (3, fs)), (o2, .inr (1, gH_)), (qp, .inl (cp, 80, .inr (.inr (.inr (.inr fp)))))] := hD
  refine lv_aload_n hx hb dX3_init_60 rfl (lv_at hl 0 rfl) ?_
  refine lv_sipush (v := 1608) hx hb dX3_init_61 (by decide) ?_
  refine k_newa (N' := 1608) hx hb (hts _ (bP 7 rfl)) hP hD hS (by decide) (by decide) (by decide) (Nat.le_of_ble_eq_true rfl) (Nat.le_of_ble_eq_true rfl) dX3_init_64 (fun n7 H hP hD hS => ?_)
  refine kq_putF [(5, .ref o2), (0, .int 0)] hts iX3 tyX3 tyX3_ok nmX3 hx hb hown hin2 hK hP hD hS 0 rfl rfl hJ 20 (by decide) (by decide) rfl (hts _ (bP 334 rfl)) rfl (ty := .array .int) (by decide +kernel) (v := .ref n7) rfl rfl dX3_init_66 (fun f h => kJ_set h _ _ rfl) (fun H locs fs hJ hP hD hS => ?_)
  have hP : va_P (dC, dI) vwCl [(h0, .inr (3, fs)), (o2, .inr (1, gH_)), (qp, .inl (cp, 80, .inr (.inr (.inr (.inr fp)))))] H := hP
  have hD : va_D A [(h0, .inr (3, fs)), (o2, .inr (1, gH_)), (qp, .inl (cp, 80, .inr (.inr (.inr (.inr fp)))))] := hD
  refine lv_aload_n hx hb dX3_init_69 rfl (lv_at hl 0 rfl) ?_
  refine lv_aload_n hx hb dX3_init_70 rfl (lv_at hl 1 rfl) ?_
  refine kq_putF [(5, .ref o2), (0, .int 0)] hts iX3 tyX3 tyX3_ok nmX3 hx hb hown hin2 hK hP hD hS 0 rfl rfl hJ 2 (by decide) (by decide) rfl (hts _ (bP 335 rfl)) rfl (ty := .object "MeetingHouse$Coder") (by decide +kernel) (v := .ref a1) rfl rfl dX3_init_71 (fun f h => kJ_set h _ _ rfl) (fun H locs fs hJ hP hD hS => ?_)
  have hP : va_P (dC, dI) vwCl [(h0, .inr (3, fs)), (o2, .inr (1, gH_)), (qp, .inl (cp, 80, .inr (.inr (.inr (.inr fp)))))] H := hP
  have hD : va_D A [(h0, .inr (3, fs)), (o2, .inr (1, gH_)), (qp, .inl (cp, 80, .inr (.inr (.inr (.inr fp)))))] := hD
  refine lv_aload_n hx hb dX3_init_74 rfl (lv_at hl 0 rfl) ?_
  refine lv_aload_n hx hb dX3_init_75 rfl (lv_at hl 2 rfl) ?_
  refine kq_putF [(5, .ref o2), (0, .int 0)] hts iX3 tyX3 tyX3_ok nmX3 hx hb hown hin2 hK hP hD hS 0 rfl rfl hJ 3 (by decide) (by decide) rfl (hts _ (bP 336 rfl)) rfl (ty := .object "MeetingHouse$Text") (by decide +kernel) (v := .ref a2) rfl rfl dX3_init_76 (fun f h => kJ_set h _ _ rfl) (fun H locs fs hJ hP hD hS => ?_)
  have hP : va_P (dC, dI) vwCl [(h0, .inr (3, fs)), (o2, .inr (1, gH_)), (qp, .inl (cp, 80, .inr (.inr (.inr (.inr fp)))))] H := hP
  have hD : va_D A [(h0, .inr (3, fs)), (o2, .inr (1, gH_)), (qp, .inl (cp, 80, .inr (.inr (.inr (.inr fp)))))] := hD
  refine lv_aload_n hx hb dX3_init_79 rfl (lv_at hl 0 rfl) ?_
  refine lv_aload_n hx hb dX3_init_80 rfl (lv_at hl 0 rfl) ?_
  refine va_get (D := (dC, dI)) (ci := 3) (v := .ref o2) (C := RX3) (T := TX3) (N := 21) hx hb hts iX3 hown hK hP 0 rfl rfl 5 (by decide) (hts _ (bP 329 rfl)) (fun _ h9 => h9) (kJ_at hJ 0 rfl) dX3_init_81 ?_
  refine va_get (D := (dC, dI)) (ci := 1) (v := .ref qp) (C := RX1) (T := TX1) (N := 16) hx hb hts iX1 hown hK hP 1 rfl rfl 0 (by decide) (hts _ (bP 337 rfl)) (fun _ h9 => h9) (kJ_at hGH 0 rfl) dX3_init_84 ?_
  refine lv_iconst (v := 0) hx hb dX3_init_87 (by decide) ?_
  obtain ⟨q0_, hq0⟩ := hfp
  refine kq_aald hx hb hK hP 2 0 rfl rfl hq0 (by unfold vp_in; decide) dX3_init_88 ?_
  refine kq_put [(5, .ref o2), (0, .int 0)] hts iX3 tyX3 tyX3_ok nmX3 hx hb hown hK hP hD hS 0 rfl rfl hJ 10 (by decide) (by decide) (hts _ (bP 338 rfl)) rfl (ty := .object "MeetingHouse$Proc") (by decide +kernel) (v := .ref q0_) rfl rfl dX3_init_89 (fun f h => kJ_set h _ _ rfl) (fun H locs fs hJ hP hD hS => ?_)
  have hP : va_P (dC, dI) vwCl [(h0, .inr (3, fs)), (o2, .inr (1, gH_)), (qp, .inl (cp, 80, .inr (.inr (.inr (.inr fp)))))] H := hP
  have hD : va_D A [(h0, .inr (3, fs)), (o2, .inr (1, gH_)), (qp, .inl (cp, 80, .inr (.inr (.inr (.inr fp)))))] := hD
  refine W.widen (k := 260) (n := 38361) (Nat.le_of_ble_eq_true rfl) (Nat.le_of_ble_eq_true rfl) ?_
  exact W.vret hx hb hr (fun t ht hW => ⟨⟨fs, rfl, kJ_sub hJ (by simp), by rw [ht]; exact hP.sub (ws' := [(h0, .inr (3, fs))]) [0] rfl, va_K.moved hW.alike (hK.sub (tys' := []) [] rfl), hD.sub (ws' := [(h0, .inr (3, fs))]) [0] (by decide) rfl⟩, hS.F ht⟩) hS.2.2 dX3_init_92

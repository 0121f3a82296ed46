/-! The class: its dictionary -/
theorem dX7_setLetter_0 : decode cX7_setLetter 0 = .ok (.iload_n 1, 1) := by decide +kernel
theorem dX7_setLetter_1 : decode cX7_setLetter 1 = .ok (.ifCond .lt 20, 3) := by decide +kernel
theorem dX7_setLetter_4 : decode cX7_setLetter 4 = .ok (.iload_n 1, 1) := by decide +kernel
theorem dX7_setLetter_5 : decode cX7_setLetter 5 = .ok (.aload_n 0, 1) := by decide +kernel
theorem dX7_setLetter_6 : decode cX7_setLetter 6 = .ok (.getfield 31, 3) := by decide +kernel
theorem dX7_setLetter_9 : decode cX7_setLetter 9 = .ok (.arraylength, 1) := by decide +kernel
theorem dX7_setLetter_10 : decode cX7_setLetter 10 = .ok (.if_icmp .ge 11, 3) := by decide +kernel
theorem dX7_setLetter_13 : decode cX7_setLetter 13 = .ok (.aload_n 0, 1) := by decide +kernel
theorem dX7_setLetter_14 : decode cX7_setLetter 14 = .ok (.getfield 31, 3) := by decide +kernel
theorem dX7_setLetter_17 : decode cX7_setLetter 17 = .ok (.iload_n 1, 1) := by decide +kernel
theorem dX7_setLetter_18 : decode cX7_setLetter 18 = .ok (.iload_n 2, 1) := by decide +kernel
theorem dX7_setLetter_19 : decode cX7_setLetter 19 = .ok (.i2b, 1) := by decide +kernel
theorem dX7_setLetter_20 : decode cX7_setLetter 20 = .ok (.bastore, 1) := by decide +kernel
theorem dX7_setLetter_21 : decode cX7_setLetter 21 = .ok (.return_, 1) := by decide +kernel
theorem dX7_known_0 : decode cX7_known 0 = .ok (.aload_n 0, 1) := by decide +kernel
theorem dX7_known_1 : decode cX7_known 1 = .ok (.getfield 34, 3) := by decide +kernel
theorem dX7_known_4 : decode cX7_known 4 = .ok (.aload_n 0, 1) := by decide +kernel
theorem dX7_known_5 : decode cX7_known 5 = .ok (.getfield 121, 3) := by decide +kernel
theorem dX7_known_8 : decode cX7_known 8 = .ok (.iaload, 1) := by decide +kernel
theorem dX7_known_9 : decode cX7_known 9 = .ok (.istore_n 2, 1) := by decide +kernel
theorem dX7_known_10 : decode cX7_known 10 = .ok (.iload_n 2, 1) := by decide +kernel
theorem dX7_known_11 : decode cX7_known 11 = .ok (.iload_n 1, 1) := by decide +kernel
theorem dX7_known_12 : decode cX7_known 12 = .ok (.iadd, 1) := by decide +kernel
theorem dX7_known_13 : decode cX7_known 13 = .ok (.aload_n 0, 1) := by decide +kernel
theorem dX7_known_14 : decode cX7_known 14 = .ok (.getfield 31, 3) := by decide +kernel
theorem dX7_known_17 : decode cX7_known 17 = .ok (.arraylength, 1) := by decide +kernel
theorem dX7_known_18 : decode cX7_known 18 = .ok (.if_icmp .gt 17, 3) := by decide +kernel
theorem dX7_known_21 : decode cX7_known 21 = .ok (.aload_n 0, 1) := by decide +kernel
theorem dX7_known_22 : decode cX7_known 22 = .ok (.getfield 121, 3) := by decide +kernel
theorem dX7_known_25 : decode cX7_known 25 = .ok (.iconst 1, 1) := by decide +kernel
theorem dX7_known_26 : decode cX7_known 26 = .ok (.iadd, 1) := by decide +kernel
theorem dX7_known_27 : decode cX7_known 27 = .ok (.aload_n 0, 1) := by decide +kernel
theorem dX7_known_28 : decode cX7_known 28 = .ok (.getfield 34, 3) := by decide +kernel
theorem dX7_known_31 : decode cX7_known 31 = .ok (.arraylength, 1) := by decide +kernel
theorem dX7_known_32 : decode cX7_known 32 = .ok (.if_icmp .lt 5, 3) := by decide +kernel
theorem dX7_known_35 : decode cX7_known 35 = .ok (.iconst 0, 1) := by decide +kernel
theorem dX7_known_36 : decode cX7_known 36 = .ok (.ireturn, 1) := by decide +kernel
theorem dX7_known_37 : decode cX7_known 37 = .ok (.iload_n 1, 1) := by decide +kernel
theorem dX7_known_38 : decode cX7_known 38 = .ok (.istore_n 3, 1) := by decide +kernel
theorem dX7_known_39 : decode cX7_known 39 = .ok (.iconst 0, 1) := by decide +kernel
theorem dX7_known_40 : decode cX7_known 40 = .ok (.istore 4, 2) := by decide +kernel
theorem dX7_known_42 : decode cX7_known 42 = .ok (.iload 4, 2) := by decide +kernel
theorem dX7_known_44 : decode cX7_known 44 = .ok (.iload_n 1, 1) := by decide +kernel
theorem dX7_known_45 : decode cX7_known 45 = .ok (.if_icmp .ge 24, 3) := by decide +kernel
theorem dX7_known_48 : decode cX7_known 48 = .ok (.iload_n 3, 1) := by decide +kernel
theorem dX7_known_49 : decode cX7_known 49 = .ok (.bipush 31, 2) := by decide +kernel
theorem dX7_known_51 : decode cX7_known 51 = .ok (.imul, 1) := by decide +kernel
theorem dX7_known_52 : decode cX7_known 52 = .ok (.aload_n 0, 1) := by decide +kernel
theorem dX7_known_53 : decode cX7_known 53 = .ok (.getfield 31, 3) := by decide +kernel
theorem dX7_known_56 : decode cX7_known 56 = .ok (.iload_n 2, 1) := by decide +kernel
theorem dX7_known_57 : decode cX7_known 57 = .ok (.iload 4, 2) := by decide +kernel
theorem dX7_known_59 : decode cX7_known 59 = .ok (.iadd, 1) := by decide +kernel
theorem dX7_known_60 : decode cX7_known 60 = .ok (.baload, 1) := by decide +kernel
theorem dX7_known_61 : decode cX7_known 61 = .ok (.iadd, 1) := by decide +kernel
theorem dX7_known_62 : decode cX7_known 62 = .ok (.istore_n 3, 1) := by decide +kernel
theorem dX7_known_63 : decode cX7_known 63 = .ok (.iinc 4 1, 3) := by decide +kernel
theorem dX7_known_66 : decode cX7_known 66 = .ok (.goto (-24), 3) := by decide +kernel
theorem dX7_known_69 : decode cX7_known 69 = .ok (.iload_n 3, 1) := by decide +kernel
theorem dX7_known_70 : decode cX7_known 70 = .ok (.sipush 511, 3) := by decide +kernel
theorem dX7_known_73 : decode cX7_known 73 = .ok (.iand, 1) := by decide +kernel
theorem dX7_known_74 : decode cX7_known 74 = .ok (.istore_n 3, 1) := by decide +kernel
theorem dX7_known_75 : decode cX7_known 75 = .ok (.aload_n 0, 1) := by decide +kernel
theorem dX7_known_76 : decode cX7_known 76 = .ok (.getfield 40, 3) := by decide +kernel
theorem dX7_known_79 : decode cX7_known 79 = .ok (.iload_n 3, 1) := by decide +kernel
theorem dX7_known_80 : decode cX7_known 80 = .ok (.iaload, 1) := by decide +kernel
theorem dX7_known_81 : decode cX7_known 81 = .ok (.istore 4, 2) := by decide +kernel
theorem dX7_known_83 : decode cX7_known 83 = .ok (.iconst 0, 1) := by decide +kernel
theorem dX7_known_84 : decode cX7_known 84 = .ok (.istore 5, 2) := by decide +kernel
theorem dX7_known_86 : decode cX7_known 86 = .ok (.iload 5, 2) := by decide +kernel
theorem dX7_known_88 : decode cX7_known 88 = .ok (.aload_n 0, 1) := by decide +kernel
theorem dX7_known_89 : decode cX7_known 89 = .ok (.getfield 121, 3) := by decide +kernel
theorem dX7_known_92 : decode cX7_known 92 = .ok (.if_icmp .gt 37, 3) := by decide +kernel
theorem dX7_known_95 : decode cX7_known 95 = .ok (.iload 4, 2) := by decide +kernel
theorem dX7_known_97 : decode cX7_known 97 = .ok (.ifCond .lt 32, 3) := by decide +kernel
theorem dX7_known_100 : decode cX7_known 100 = .ok (.aload_n 0, 1) := by decide +kernel
theorem dX7_known_101 : decode cX7_known 101 = .ok (.iload 4, 2) := by decide +kernel
theorem dX7_known_103 : decode cX7_known 103 = .ok (.iload_n 2, 1) := by decide +kernel
theorem dX7_known_104 : decode cX7_known 104 = .ok (.iload_n 1, 1) := by decide +kernel
theorem dX7_known_105 : decode cX7_known 105 = .ok (.invokevirtual 131, 3) := by decide +kernel
theorem dX7_known_108 : decode cX7_known 108 = .ok (.ifCond .eq 6, 3) := by decide +kernel
theorem dX7_known_111 : decode cX7_known 111 = .ok (.iload 4, 2) := by decide +kernel
theorem dX7_known_113 : decode cX7_known 113 = .ok (.ireturn, 1) := by decide +kernel
theorem dX7_known_114 : decode cX7_known 114 = .ok (.aload_n 0, 1) := by decide +kernel
theorem dX7_known_115 : decode cX7_known 115 = .ok (.getfield 37, 3) := by decide +kernel
theorem dX7_known_118 : decode cX7_known 118 = .ok (.iload 4, 2) := by decide +kernel
theorem dX7_known_120 : decode cX7_known 120 = .ok (.iaload, 1) := by decide +kernel
theorem dX7_known_121 : decode cX7_known 121 = .ok (.istore 4, 2) := by decide +kernel
theorem dX7_known_123 : decode cX7_known 123 = .ok (.iinc 5 1, 3) := by decide +kernel
theorem dX7_known_126 : decode cX7_known 126 = .ok (.goto (-40), 3) := by decide +kernel
theorem dX7_known_129 : decode cX7_known 129 = .ok (.aload_n 0, 1) := by decide +kernel
theorem dX7_known_130 : decode cX7_known 130 = .ok (.getfield 37, 3) := by decide +kernel
theorem dX7_known_133 : decode cX7_known 133 = .ok (.aload_n 0, 1) := by decide +kernel
theorem dX7_known_134 : decode cX7_known 134 = .ok (.getfield 121, 3) := by decide +kernel
theorem dX7_known_137 : decode cX7_known 137 = .ok (.aload_n 0, 1) := by decide +kernel
theorem dX7_known_138 : decode cX7_known 138 = .ok (.getfield 40, 3) := by decide +kernel
theorem dX7_known_141 : decode cX7_known 141 = .ok (.iload_n 3, 1) := by decide +kernel
theorem dX7_known_142 : decode cX7_known 142 = .ok (.iaload, 1) := by decide +kernel
theorem dX7_known_143 : decode cX7_known 143 = .ok (.iastore, 1) := by decide +kernel
theorem dX7_known_144 : decode cX7_known 144 = .ok (.aload_n 0, 1) := by decide +kernel
theorem dX7_known_145 : decode cX7_known 145 = .ok (.getfield 40, 3) := by decide +kernel
theorem dX7_known_148 : decode cX7_known 148 = .ok (.iload_n 3, 1) := by decide +kernel
theorem dX7_known_149 : decode cX7_known 149 = .ok (.aload_n 0, 1) := by decide +kernel
theorem dX7_known_150 : decode cX7_known 150 = .ok (.getfield 121, 3) := by decide +kernel
theorem dX7_known_153 : decode cX7_known 153 = .ok (.iastore, 1) := by decide +kernel
theorem dX7_known_154 : decode cX7_known 154 = .ok (.aload_n 0, 1) := by decide +kernel
theorem dX7_known_155 : decode cX7_known 155 = .ok (.dup, 1) := by decide +kernel
theorem dX7_known_156 : decode cX7_known 156 = .ok (.getfield 121, 3) := by decide +kernel
theorem dX7_known_159 : decode cX7_known 159 = .ok (.iconst 1, 1) := by decide +kernel
theorem dX7_known_160 : decode cX7_known 160 = .ok (.iadd, 1) := by decide +kernel
theorem dX7_known_161 : decode cX7_known 161 = .ok (.putfield 121, 3) := by decide +kernel
theorem dX7_known_164 : decode cX7_known 164 = .ok (.aload_n 0, 1) := by decide +kernel
theorem dX7_known_165 : decode cX7_known 165 = .ok (.getfield 34, 3) := by decide +kernel
theorem dX7_known_168 : decode cX7_known 168 = .ok (.aload_n 0, 1) := by decide +kernel
theorem dX7_known_169 : decode cX7_known 169 = .ok (.getfield 121, 3) := by decide +kernel
theorem dX7_known_172 : decode cX7_known 172 = .ok (.iload_n 2, 1) := by decide +kernel
theorem dX7_known_173 : decode cX7_known 173 = .ok (.iload_n 1, 1) := by decide +kernel
theorem dX7_known_174 : decode cX7_known 174 = .ok (.iadd, 1) := by decide +kernel
theorem dX7_known_175 : decode cX7_known 175 = .ok (.iastore, 1) := by decide +kernel
theorem dX7_known_176 : decode cX7_known 176 = .ok (.aload_n 0, 1) := by decide +kernel
theorem dX7_known_177 : decode cX7_known 177 = .ok (.getfield 121, 3) := by decide +kernel
theorem dX7_known_180 : decode cX7_known 180 = .ok (.iconst 1, 1) := by decide +kernel
theorem dX7_known_181 : decode cX7_known 181 = .ok (.isub, 1) := by decide +kernel
theorem dX7_known_182 : decode cX7_known 182 = .ok (.ireturn, 1) := by decide +kernel
theorem dX7_isSame_0 : decode cX7_isSame 0 = .ok (.aload_n 0, 1) := by decide +kernel
theorem dX7_isSame_1 : decode cX7_isSame 1 = .ok (.getfield 34, 3) := by decide +kernel
theorem dX7_isSame_4 : decode cX7_isSame 4 = .ok (.iload_n 1, 1) := by decide +kernel
theorem dX7_isSame_5 : decode cX7_isSame 5 = .ok (.iaload, 1) := by decide +kernel
theorem dX7_isSame_6 : decode cX7_isSame 6 = .ok (.istore 4, 2) := by decide +kernel
theorem dX7_isSame_8 : decode cX7_isSame 8 = .ok (.aload_n 0, 1) := by decide +kernel
theorem dX7_isSame_9 : decode cX7_isSame 9 = .ok (.getfield 34, 3) := by decide +kernel
theorem dX7_isSame_12 : decode cX7_isSame 12 = .ok (.iload_n 1, 1) := by decide +kernel
theorem dX7_isSame_13 : decode cX7_isSame 13 = .ok (.iconst 1, 1) := by decide +kernel
theorem dX7_isSame_14 : decode cX7_isSame 14 = .ok (.iadd, 1) := by decide +kernel
theorem dX7_isSame_15 : decode cX7_isSame 15 = .ok (.iaload, 1) := by decide +kernel
theorem dX7_isSame_16 : decode cX7_isSame 16 = .ok (.iload 4, 2) := by decide +kernel
theorem dX7_isSame_18 : decode cX7_isSame 18 = .ok (.isub, 1) := by decide +kernel
theorem dX7_isSame_19 : decode cX7_isSame 19 = .ok (.iload_n 3, 1) := by decide +kernel
theorem dX7_isSame_20 : decode cX7_isSame 20 = .ok (.if_icmp .eq 5, 3) := by decide +kernel
theorem dX7_isSame_23 : decode cX7_isSame 23 = .ok (.iconst 0, 1) := by decide +kernel
theorem dX7_isSame_24 : decode cX7_isSame 24 = .ok (.ireturn, 1) := by decide +kernel
theorem dX7_isSame_25 : decode cX7_isSame 25 = .ok (.iconst 0, 1) := by decide +kernel
theorem dX7_isSame_26 : decode cX7_isSame 26 = .ok (.istore 5, 2) := by decide +kernel
theorem dX7_isSame_28 : decode cX7_isSame 28 = .ok (.iload 5, 2) := by decide +kernel
theorem dX7_isSame_30 : decode cX7_isSame 30 = .ok (.iload_n 3, 1) := by decide +kernel
theorem dX7_isSame_31 : decode cX7_isSame 31 = .ok (.if_icmp .ge 33, 3) := by decide +kernel
theorem dX7_isSame_34 : decode cX7_isSame 34 = .ok (.aload_n 0, 1) := by decide +kernel
theorem dX7_isSame_35 : decode cX7_isSame 35 = .ok (.getfield 31, 3) := by decide +kernel
theorem dX7_isSame_38 : decode cX7_isSame 38 = .ok (.iload 4, 2) := by decide +kernel
theorem dX7_isSame_40 : decode cX7_isSame 40 = .ok (.iload 5, 2) := by decide +kernel
theorem dX7_isSame_42 : decode cX7_isSame 42 = .ok (.iadd, 1) := by decide +kernel
theorem dX7_isSame_43 : decode cX7_isSame 43 = .ok (.baload, 1) := by decide +kernel
theorem dX7_isSame_44 : decode cX7_isSame 44 = .ok (.aload_n 0, 1) := by decide +kernel
theorem dX7_isSame_45 : decode cX7_isSame 45 = .ok (.getfield 31, 3) := by decide +kernel
theorem dX7_isSame_48 : decode cX7_isSame 48 = .ok (.iload_n 2, 1) := by decide +kernel
theorem dX7_isSame_49 : decode cX7_isSame 49 = .ok (.iload 5, 2) := by decide +kernel
theorem dX7_isSame_51 : decode cX7_isSame 51 = .ok (.iadd, 1) := by decide +kernel
theorem dX7_isSame_52 : decode cX7_isSame 52 = .ok (.baload, 1) := by decide +kernel
theorem dX7_isSame_53 : decode cX7_isSame 53 = .ok (.if_icmp .eq 5, 3) := by decide +kernel
theorem dX7_isSame_56 : decode cX7_isSame 56 = .ok (.iconst 0, 1) := by decide +kernel
theorem dX7_isSame_57 : decode cX7_isSame 57 = .ok (.ireturn, 1) := by decide +kernel
theorem dX7_isSame_58 : decode cX7_isSame 58 = .ok (.iinc 5 1, 3) := by decide +kernel
theorem dX7_isSame_61 : decode cX7_isSame 61 = .ok (.goto (-33), 3) := by decide +kernel
theorem dX7_isSame_64 : decode cX7_isSame 64 = .ok (.iconst 1, 1) := by decide +kernel
theorem dX7_isSame_65 : decode cX7_isSame 65 = .ok (.ireturn, 1) := by decide +kernel
theorem vp_in_lt {x M : Int32} {n : Nat} (hM : M.toInt = n) (h1 : ¬ x < 0) (h2 : ¬ M ≤ x) : vp_in x n := vp_in_iff.mpr (by
  have a := Int32.le_iff_toInt_le.mp (Int32.not_lt.mp h1)
  have b := Int32.lt_iff_toInt_lt.mp (Int32.not_le.mp h2)
  rw [hM] at b
  exact ⟨by simpa using a, b⟩)
theorem nI_sub {a b c : Nat} (ha : a < 2 ^ 31) (hbc : c + b < 2 ^ 31) (h : nI a - nI b = nI c) : a = c + b := by
  have h1 : nI a = nI (c + b) := by rw [← nI_add, ← h, Int32.sub_add_cancel]
  exact (nI_eq ha hbc).mp h1
/-- the names' beginnings: places among the letters -/
def dF (N : Nat) (f : Nat → Int32) : Prop := ∀ k, k ≤ N → ∃ v : Nat, v ≤ 6400 ∧ f k = nI v
/-- M places, each empty or one of the N names -/
def dB (N M : Nat) (f : Nat → Int32) : Prop := ∀ k, k < M → f k = -1 ∨ ∃ j : Nat, j < N ∧ f k = nI j
def kD (N : Nat) (fF fN fB : Nat → Int32) : Prop := N ≤ 3149 ∧ dF N fF ∧ dB N 512 fB ∧ dB N N fN
theorem kD.next {N h v : Nat} {fF fN fB fF' fN' fB' : Nat → Int32} {x : Int32} (hD : kD N fF fN fB) (hN : N + 1 < 3150) (hv : v ≤ 6400) (hx : x = -1 ∨ ∃ j : Nat, j < N ∧ x = nI j) (hh : h < 512) (eN : fN' = upd fN N x) (eB : fB' = upd fB h (nI N)) (eF : fF' = upd fF (N + 1) (nI v)) : kD (N + 1) fF' fN' fB' := by
  subst eN eB eF
  refine ⟨by omega, fun k hk => ?_, fun k hk => ?_, fun k hk => ?_⟩
  · by_cases e : k = N + 1
    · exact ⟨v, hv, by simp [upd, e]⟩
    · obtain ⟨w, h1, h2⟩ := hD.2.1 k (by omega)
      exact ⟨w, h1, by simp [upd, e, h2]⟩
  · by_cases e : k = h
    · exact Or.inr ⟨N, by omega, by simp [upd, e]⟩
    · rcases hD.2.2.1 k hk with h1 | ⟨j, h1, h2⟩
      · exact Or.inl (by simp [upd, e, h1])
      · exact Or.inr ⟨j, by omega, by simp [upd, e, h2]⟩
  · by_cases e : k = N
    · rcases hx with h1 | ⟨j, h1, h2⟩
      · exact Or.inl (by simp [upd, e, h1])
      · exact Or.inr ⟨j, by omega, by simp [upd, e, h2]⟩
    · rcases hD.2.2.2 k (by omega) with h1 | ⟨j, h1, h2⟩
      · exact Or.inl (by simp [upd, e, h1])
      · exact Or.inr ⟨j, by omega, by simp [upd, e, h2]⟩
set_option maxHeartbeats 4000000 in
set_option maxRecDepth 100000 in
/-- c_Text_setLetter -/
theorem c_Text_setLetter (l : Launch) (dC : Nat → ClassId) (dI : Nat → Nat → Nat) (h0 sz : Nat) (ft : List Value) (ql : Nat) (cl : ClassId) (g : Nat → Int32) (a1 a2 : Int32) : Met l yX7_setLetter (.code yX7_setLetter cX7_setLetter 3 none :: wP) ({ frames := 0, cells := 0, slots := 0, locals := 0 }) (va_Pc [.ref h0, .int a1, .int a2] (fun U => U.heap.size = sz ∧ kJ 19 [(14, .ref ql)] ft ∧ va_P (dC, dI) vwCl [(h0, .inr (7, ft)), (ql, .inl (cl, 6400, .inl g))] U.heap ∧ va_K (dC, dI) vwCl [(cl, .byte)] U ∧ va_D (fun _ => True) [(h0, .inr (7, ft)), (ql, .inl (cl, 6400, .inl g))])) (va_Qv (fun (_ : Nat → Int32) => True) (fun (u : Nat → Int32) (t : State) => match u with | g' => va_P (dC, dI) vwCl [(h0, .inr (7, ft)), (ql, .inl (cl, 6400, .inl g'))] t.heap ∧ va_K (dC, dI) vwCl [(cl, .byte)] t ∧ va_D (va_A [(h0, .inr (7, ft)), (ql, .inl (cl, 6400, .inl g))] sz) [(h0, .inr (7, ft)), (ql, .inl (cl, 6400, .inl g'))]) (va_A [(h0, .inr (7, ft)), (ql, .inl (cl, 6400, .inl g))] sz)) 0 0 (va_A [(h0, .inr (7, ft)), (ql, .inl (cl, 6400, .inl g))] sz) := by
  refine Met.ofW (cc := cX7_setLetter) (maxL := 3) (ret := none) (by decide) rfl ?_
  intro p e s m args below meth c s₁ B hml hv
  obtain ⟨rfl, hsz, hT, hP, hK, hD0⟩ := hv
  have hx := B.exec
  have hb := B.bytes
  have hr := B.returns
  have hts := atoms_spec (ws := .code yX7_setLetter cX7_setLetter 3 none :: wP) B.pre
  have hown : s.vm.findClass RX7 = some m.cls := findClass_of_methodNamed B.named
  subst hsz
  have hD := hD0.self (sz := s.heap.size)
  generalize hAe : va_A [(h0, .inr (7, ft)), (ql, .inl (cl, 6400, .inl g))] s.heap.size = A at hD ⊢
  have hA : ∀ q : Nat, s.heap.size ≤ q → A q := fun q h => by rw [← hAe]; exact Or.inr h
  have hS : va_S A s.heap s.heap [] := va_S.rf
  have hl := lv_entry ([.ref h0, .int a1, .int a2]) (n := 3) (Nat.le_of_ble_eq_true rfl)
  rw [lg_entry_eq]
  generalize (lg_sl ([.ref h0, .int a1, .int a2]) ++ List.replicate (3 - (lg_sl ([.ref h0, .int a1, .int a2])).length) Slot.unset).toArray = ls at hl ⊢
  obtain ⟨H, hHe⟩ : ∃ H, H = s.heap := ⟨_, rfl⟩
  rw [← hHe] at hP ⊢
  have hS : va_S A s.heap H [] := by rw [hHe]; exact hS
  have hl : lv_has ls 3 [(0, .ref h0), (1, .int a1), (2, .int a2)] := hl
  refine lv_iload_n hx hb dX7_setLetter_0 rfl (lv_at hl 1 rfl) ?_
  refine lv_if_lt (tgt := 21) hx hb dX7_setLetter_1 (by decide) (fun h1 => ?_) (fun h1 => ?_)
  · exact W.vret hx hb hr (fun t ht hW => ⟨⟨g, rfl, trivial, by rw [ht]; exact hP, va_K.moved hW.alike hK, hD⟩, hS.F ht⟩) hS.2.2 dX7_setLetter_21
  · refine lv_iload_n hx hb dX7_setLetter_4 rfl (lv_at hl 1 rfl) ?_
    refine lv_aload_n hx hb dX7_setLetter_5 rfl (lv_at hl 0 rfl) ?_
    refine va_get (D := (dC, dI)) (ci := 7) (v := .ref ql) (C := RX7) (T := TX7) (N := 19) hx hb hts iX7 hown hK hP 0 rfl rfl 14 (by decide) (hts _ (bP 300 rfl)) (fun _ h9 => h9) (kJ_at hT 0 rfl) dX7_setLetter_6 ?_
    refine va_alen hx hb hK hP 1 0 rfl rfl (v := 6400) rfl dX7_setLetter_9 ?_
    refine lv_icmp_ge (tgt := 21) hx hb dX7_setLetter_10 (by decide) (fun h10 => ?_) (fun h10 => ?_)
    · exact W.vret hx hb hr (fun t ht hW => ⟨⟨g, rfl, trivial, by rw [ht]; exact hP, va_K.moved hW.alike hK, hD⟩, hS.F ht⟩) hS.2.2 dX7_setLetter_21
    · refine lv_aload_n hx hb dX7_setLetter_13 rfl (lv_at hl 0 rfl) ?_
      refine va_get (D := (dC, dI)) (ci := 7) (v := .ref ql) (C := RX7) (T := TX7) (N := 19) hx hb hts iX7 hown hK hP 0 rfl rfl 14 (by decide) (hts _ (bP 300 rfl)) (fun _ h9 => h9) (kJ_at hT 0 rfl) dX7_setLetter_14 ?_
      refine lv_iload_n hx hb dX7_setLetter_17 rfl (lv_at hl 1 rfl) ?_
      refine lv_iload_n hx hb dX7_setLetter_18 rfl (lv_at hl 2 rfl) ?_
      refine lv_i2b hx hb dX7_setLetter_19 rfl ?_
      refine lv_topi (fun z1 ez1 => ?_)
      refine kq_bast hx hb hK hP hD hS 1 0 rfl rfl (vp_in_lt (M := 6400) (by decide) h1 h10) dX7_setLetter_20 (fun H locs g eg hP hD hS => ?_)
      have hP : va_P (dC, dI) vwCl [(h0, .inr (7, ft)), (ql, .inl (cl, 6400, .inl g))] H := hP
      have hD : va_D A [(h0, .inr (7, ft)), (ql, .inl (cl, 6400, .inl g))] := hD
      exact W.vret hx hb hr (fun t ht hW => ⟨⟨g, rfl, trivial, by rw [ht]; exact hP, va_K.moved hW.alike hK, hD⟩, hS.F ht⟩) hS.2.2 dX7_setLetter_21
set_option maxHeartbeats 4000000 in
set_option maxRecDepth 100000 in
/-- c_Text_isSame -/
theorem c_Text_isSame (l : Launch) (dC : Nat → ClassId) (dI : Nat → Nat → Nat) (h0 sz : Nat) (ft : List Value) (ql qf : Nat) (cl cf : ClassId) (g fF : Nat → Int32) (N j v n : Nat) : Met l yX7_isSame (.code yX7_isSame cX7_isSame 6 (some .boolean) :: wP) ({ frames := 0, cells := 0, slots := 0, locals := 0 }) (va_Pc [.ref h0, .int (nI j), .int (nI v), .int (nI n)] (fun U => U.heap.size = sz ∧ kJ 19 [(14, .ref ql), (15, .ref qf)] ft ∧ N ≤ 3149 ∧ j < N ∧ v + n ≤ 6400 ∧ dF N fF ∧ va_P (dC, dI) vwCl [(h0, .inr (7, ft)), (ql, .inl (cl, 6400, .inl g)), (qf, .inl (cf, 3150, .inl fF))] U.heap ∧ va_K (dC, dI) vwCl [(cl, .byte), (cf, .int)] U ∧ va_D (fun _ => True) [(h0, .inr (7, ft)), (ql, .inl (cl, 6400, .inl g)), (qf, .inl (cf, 3150, .inl fF))])) (va_Qi (fun (_ : Int32) (_ : Unit) => True) (fun (u : Unit) (t : State) => match u with | _ => va_P (dC, dI) vwCl [(h0, .inr (7, ft)), (ql, .inl (cl, 6400, .inl g)), (qf, .inl (cf, 3150, .inl fF))] t.heap ∧ va_K (dC, dI) vwCl [(cl, .byte), (cf, .int)] t ∧ va_D (va_A [(h0, .inr (7, ft)), (ql, .inl (cl, 6400, .inl g)), (qf, .inl (cf, 3150, .inl fF))] sz) [(h0, .inr (7, ft)), (ql, .inl (cl, 6400, .inl g)), (qf, .inl (cf, 3150, .inl fF))]) (va_A [(h0, .inr (7, ft)), (ql, .inl (cl, 6400, .inl g)), (qf, .inl (cf, 3150, .inl fF))] sz)) 0 0 (va_A [(h0, .inr (7, ft)), (ql, .inl (cl, 6400, .inl g)), (qf, .inl (cf, 3150, .inl fF))] sz) := by
  refine Met.ofW (cc := cX7_isSame) (maxL := 6) (ret := (some .boolean)) (by decide) rfl ?_
  intro p e s m args below meth c s₁ B hml hv
  obtain ⟨rfl, hsz, hT, hN, hj, hvn, hF, hP, hK, hD0⟩ := hv
  have hx := B.exec
  have hb := B.bytes
  have hr := B.returns
  have hts := atoms_spec (ws := .code yX7_isSame cX7_isSame 6 (some .boolean) :: wP) B.pre
  have hown : s.vm.findClass RX7 = some m.cls := findClass_of_methodNamed B.named
  subst hsz
  have hD := hD0.self (sz := s.heap.size)
  generalize hAe : va_A [(h0, .inr (7, ft)), (ql, .inl (cl, 6400, .inl g)), (qf, .inl (cf, 3150, .inl fF))] s.heap.size = A at hD ⊢
  have hA : ∀ q : Nat, s.heap.size ≤ q → A q := fun q h => by rw [← hAe]; exact Or.inr h
  have hS : va_S A s.heap s.heap [] := va_S.rf
  have hl := lv_entry ([.ref h0, .int (nI j), .int (nI v), .int (nI n)]) (n := 6) (Nat.le_of_ble_eq_true rfl)
  rw [lg_entry_eq]
  generalize (lg_sl ([.ref h0, .int (nI j), .int (nI v), .int (nI n)]) ++ List.replicate (6 - (lg_sl ([.ref h0, .int (nI j), .int (nI v), .int (nI n)])).length) Slot.unset).toArray = ls at hl ⊢
  obtain ⟨H, hHe⟩ : ∃ H, H = s.heap := ⟨_, rfl⟩
  rw [← hHe] at hP ⊢
  have hS : va_S A s.heap H [] := by rw [hHe]; exact hS
  have hl : lv_has ls 6 [(0, .ref h0), (1, .int (nI j)), (2, .int (nI v)), (3, .int (nI n))] := hl
  refine lv_aload_n hx hb dX7_isSame_0 rfl (lv_at hl 0 rfl) ?_
  refine va_get (D := (dC, dI)) (ci := 7) (v := .ref qf) (C := RX7) (T := TX7) (N := 19) hx hb hts iX7 hown hK hP 0 rfl rfl 15 (by decide) (hts _ (bP 301 rfl)) (fun _ h9 => h9) (kJ_at hT 1 rfl) dX7_isSame_1 ?_
  refine lv_iload_n hx hb dX7_isSame_4 rfl (lv_at hl 1 rfl) ?_
  refine va_iald hx hb hK hP 2 1 rfl rfl (vp_in_nI (by omega) (by decide)) dX7_isSame_5 ?_
  obtain ⟨u1, hu1, eu1⟩ := hF (j) (by omega)
  refine k_i (v := nI u1) (by rw [nI_clamp (by omega)]; exact eu1) ?_
  refine lv_istore (lv' := [(4, .int (nI u1)), (0, .ref h0), (1, .int (nI j)), (2, .int (nI v)), (3, .int (nI n))]) hx hb dX7_isSame_6 hl (by decide) rfl (fun ls hl => ?_)
  refine lv_aload_n hx hb dX7_isSame_8 rfl (lv_at hl 1 rfl) ?_
  refine va_get (D := (dC, dI)) (ci := 7) (v := .ref qf) (C := RX7) (T := TX7) (N := 19) hx hb hts iX7 hown hK hP 0 rfl rfl 15 (by decide) (hts _ (bP 301 rfl)) (fun _ h9 => h9) (kJ_at hT 1 rfl) dX7_isSame_9 ?_
  refine lv_iload_n hx hb dX7_isSame_12 rfl (lv_at hl 2 rfl) ?_
  refine lv_iconst (v := 1) hx hb dX7_isSame_13 (by decide) ?_
  refine lv_iadd hx hb dX7_isSame_14 ?_
  refine k_i (v := nI (j + 1)) (nI_1 _) ?_
  refine va_iald hx hb hK hP 2 1 rfl rfl (vp_in_nI (by omega) (by decide)) dX7_isSame_15 ?_
  obtain ⟨u2, hu2, eu2⟩ := hF (j + 1) (by omega)
  refine k_i (v := nI u2) (by rw [nI_clamp (by omega)]; exact eu2) ?_
  refine lv_iload hx hb dX7_isSame_16 (lv_at hl 0 rfl) ?_
  refine lv_isub hx hb dX7_isSame_18 ?_
  refine lv_topi (fun z1 ez1 => ?_)
  refine lv_iload_n hx hb dX7_isSame_19 rfl (lv_at hl 4 rfl) ?_
  refine lv_icmp_eq (tgt := 25) hx hb dX7_isSame_20 (by decide) (fun h20 => ?_) (fun h20 => ?_)
  · have hw2 : u2 = n + u1 := nI_sub (by omega) (by omega) (by rw [← h20, ez1])
    refine lv_iconst (v := 0) hx hb dX7_isSame_25 (by decide) ?_
    refine lv_istore (lv' := [(5, .int 0), (4, .int (nI u1)), (0, .ref h0), (1, .int (nI j)), (2, .int (nI v)), (3, .int (nI n))]) hx hb dX7_isSame_26 hl (by decide) rfl (fun ls hl => ?_)
    obtain ⟨i, hi, e0⟩ : ∃ i : Nat, i ≤ n ∧ (0 : Int32) = nI i := ⟨0, by omega, rfl⟩
    have hl2 : lv_has ls 6 [(5, .int (nI i)), (4, .int (nI u1)), (0, .ref h0), (1, .int (nI j)), (2, .int (nI v)), (3, .int (nI n))] := by rw [← e0]; exact lv_sub hl [0, 1, 2, 3, 4, 5] rfl
    clear e0 hl
    have hl := hl2
    clear hl2
    obtain ⟨k, hk⟩ : ∃ k : Nat, i + k = n := ⟨n - i, by omega⟩
    induction k generalizing i ls with
    | zero =>
      refine lv_iload hx hb dX7_isSame_28 (lv_at hl 0 rfl) ?_
      refine lv_iload_n hx hb dX7_isSame_30 rfl (lv_at hl 5 rfl) ?_
      refine lv_icmp_ge (tgt := 64) hx hb dX7_isSame_31 (by decide) (fun _ => ?_) (fun h => absurd (nI_le (by omega) (by omega)) h)
      refine lv_iconst (v := 1) hx hb dX7_isSame_64 (by decide) ?_
      exact W.zret (v := 1) hx hb hr (by decide) (fun t ht hW => ⟨⟨1, (), rfl, trivial, by rw [ht]; exact hP, va_K.moved hW.alike hK, hD⟩, hS.F ht⟩) hS.2.2 dX7_isSame_65
    | succ k ih =>
      refine lv_iload hx hb dX7_isSame_28 (lv_at hl 0 rfl) ?_
      refine lv_iload_n hx hb dX7_isSame_30 rfl (lv_at hl 5 rfl) ?_
      refine lv_icmp_ge (tgt := 64) hx hb dX7_isSame_31 (by decide) (fun h => absurd h (nI_ge (by omega) (by omega))) (fun _ => ?_)
      refine lv_aload_n hx hb dX7_isSame_34 rfl (lv_at hl 2 rfl) ?_
      refine va_get (D := (dC, dI)) (ci := 7) (v := .ref ql) (C := RX7) (T := TX7) (N := 19) hx hb hts iX7 hown hK hP 0 rfl rfl 14 (by decide) (hts _ (bP 300 rfl)) (fun _ h9 => h9) (kJ_at hT 0 rfl) dX7_isSame_35 ?_
      refine lv_iload hx hb dX7_isSame_38 (lv_at hl 1 rfl) ?_
      refine lv_iload hx hb dX7_isSame_40 (lv_at hl 0 rfl) ?_
      refine lv_iadd hx hb dX7_isSame_42 ?_
      refine k_i (v := nI (u1 + i)) (nI_add _ _) ?_
      refine va_bald hx hb hK hP 1 0 rfl rfl (vp_in_nI (by omega) (by decide)) dX7_isSame_43 ?_
      refine lv_topi (fun z2 ez2 => ?_)
      refine lv_aload_n hx hb dX7_isSame_44 rfl (lv_at hl 2 rfl) ?_
      refine va_get (D := (dC, dI)) (ci := 7) (v := .ref ql) (C := RX7) (T := TX7) (N := 19) hx hb hts iX7 hown hK hP 0 rfl rfl 14 (by decide) (hts _ (bP 300 rfl)) (fun _ h9 => h9) (kJ_at hT 0 rfl) dX7_isSame_45 ?_
      refine lv_iload_n hx hb dX7_isSame_48 rfl (lv_at hl 4 rfl) ?_
      refine lv_iload hx hb dX7_isSame_49 (lv_at hl 0 rfl) ?_
      refine lv_iadd hx hb dX7_isSame_51 ?_
      refine k_i (v := nI (v + i)) (nI_add _ _) ?_
      refine va_bald hx hb hK hP 1 0 rfl rfl (vp_in_nI (by omega) (by decide)) dX7_isSame_52 ?_
      refine lv_topi (fun z3 ez3 => ?_)
      refine lv_icmp_eq (tgt := 58) hx hb dX7_isSame_53 (by decide) (fun h53 => ?_) (fun h53 => ?_)
      · refine lv_iinc (v := nI (i + 1)) (lv' := [(5, .int (nI (i + 1))), (4, .int (nI u1)), (0, .ref h0), (1, .int (nI j)), (2, .int (nI v)), (3, .int (nI n))]) hx hb dX7_isSame_58 hl (k := 0) rfl (nI_1 _) (by decide) rfl (fun ls hl => ?_)
        refine lv_goto (tgt := 28) hx hb dX7_isSame_61 (by decide) ?_
        apply ih (i := i + 1) <;> first | assumption | omega
      · refine lv_iconst (v := 0) hx hb dX7_isSame_56 (by decide) ?_
        exact W.zret (v := 0) hx hb hr (by decide) (fun t ht hW => ⟨⟨0, (), rfl, trivial, by rw [ht]; exact hP, va_K.moved hW.alike hK, hD⟩, hS.F ht⟩) hS.2.2 dX7_isSame_57
  · refine lv_iconst (v := 0) hx hb dX7_isSame_23 (by decide) ?_
    exact W.zret (v := 0) hx hb hr (by decide) (fun t ht hW => ⟨⟨0, (), rfl, trivial, by rw [ht]; exact hP, va_K.moved hW.alike hK, hD⟩, hS.F ht⟩) hS.2.2 dX7_isSame_24
set_option maxHeartbeats 4000000 in
set_option maxRecDepth 100000 in
/-- c_Text_known -/
theorem c_Text_known (l : Launch) (dC : Nat → ClassId) (dI : Nat → Nat → Nat) (h0 sz : Nat) (ft : List Value) (ql qf qn qb qk qv qi qs : Nat) (cl cf cn cb : ClassId) (g fF fN fB : Nat → Int32) (N : Nat) (n : Nat) : Met l yX7_known (.code yX7_known cX7_known 6 (some .int) :: wP) ({ frames := 1, cells := 0, slots := 0, locals := 25 }) (va_Pc [.ref h0, .int (nI n)] (fun U => U.heap.size = sz ∧ kJ 19 [(18, .int (nI N)), (14, .ref ql), (15, .ref qf), (16, .ref qn), (17, .ref qb), (2, .ref qk), (3, .ref qv), (4, .ref qi), (5, .ref qs), (1, .int 0)] ft ∧ n ≤ 100 ∧ kD N fF fN fB ∧ va_P (dC, dI) vwCl [(h0, .inr (7, ft)), (ql, .inl (cl, 6400, .inl g)), (qf, .inl (cf, 3150, .inl fF)), (qn, .inl (cn, 3150, .inl fN)), (qb, .inl (cb, 512, .inl fB))] U.heap ∧ va_K (dC, dI) vwCl [(cl, .byte), (cf, .int), (cn, .int), (cb, .int)] U ∧ va_D (fun _ => True) [(h0, .inr (7, ft)), (ql, .inl (cl, 6400, .inl g)), (qf, .inl (cf, 3150, .inl fF)), (qn, .inl (cn, 3150, .inl fN)), (qb, .inl (cb, 512, .inl fB))])) (va_Qi (fun (_ : Int32) (u : Nat × List Value × (Nat → Int32) × (Nat → Int32) × (Nat → Int32)) => match u with | (N, ft, fF, fN, fB) => kJ 19 [(18, .int (nI N)), (14, .ref ql), (15, .ref qf), (16, .ref qn), (17, .ref qb), (2, .ref qk), (3, .ref qv), (4, .ref qi), (5, .ref qs), (1, .int 0)] ft ∧ kD N fF fN fB) (fun (u : Nat × List Value × (Nat → Int32) × (Nat → Int32) × (Nat → Int32)) (t : State) => match u with | (N', ft', fF', fN', fB') => va_P (dC, dI) vwCl [(h0, .inr (7, ft')), (ql, .inl (cl, 6400, .inl g)), (qf, .inl (cf, 3150, .inl fF')), (qn, .inl (cn, 3150, .inl fN')), (qb, .inl (cb, 512, .inl fB'))] t.heap ∧ va_K (dC, dI) vwCl [(cl, .byte), (cf, .int), (cn, .int), (cb, .int)] t ∧ va_D (va_A [(h0, .inr (7, ft)), (ql, .inl (cl, 6400, .inl g)), (qf, .inl (cf, 3150, .inl fF)), (qn, .inl (cn, 3150, .inl fN)), (qb, .inl (cb, 512, .inl fB))] sz) [(h0, .inr (7, ft')), (ql, .inl (cl, 6400, .inl g)), (qf, .inl (cf, 3150, .inl fF')), (qn, .inl (cn, 3150, .inl fN')), (qb, .inl (cb, 512, .inl fB'))]) (va_A [(h0, .inr (7, ft)), (ql, .inl (cl, 6400, .inl g)), (qf, .inl (cf, 3150, .inl fF)), (qn, .inl (cn, 3150, .inl fN)), (qb, .inl (cb, 512, .inl fB))] sz)) 0 0 (va_A [(h0, .inr (7, ft)), (ql, .inl (cl, 6400, .inl g)), (qf, .inl (cf, 3150, .inl fF)), (qn, .inl (cn, 3150, .inl fN)), (qb, .inl (cb, 512, .inl fB))] sz) := by
  refine Met.ofW (cc := cX7_known) (maxL := 6) (ret := (some .int)) (by decide) rfl ?_
  intro p e s m args below meth c s₁ B hml hv
  obtain ⟨rfl, hsz, hT, hn, hK4, hP, hK, hD0⟩ := hv
  have hx := B.exec
  have hb := B.bytes
  have hr := B.returns
  have hts := atoms_spec (ws := .code yX7_known cX7_known 6 (some .int) :: wP) B.pre
  have hown : s.vm.findClass RX7 = some m.cls := findClass_of_methodNamed B.named
  subst hsz
  have hD := hD0.self (sz := s.heap.size)
  generalize hAe : va_A [(h0, .inr (7, ft)), (ql, .inl (cl, 6400, .inl g)), (qf, .inl (cf, 3150, .inl fF)), (qn, .inl (cn, 3150, .inl fN)), (qb, .inl (cb, 512, .inl fB))] s.heap.size = A at hD ⊢
  have hA : ∀ q : Nat, s.heap.size ≤ q → A q := fun q h => by rw [← hAe]; exact Or.inr h
  have hS : va_S A s.heap s.heap [] := va_S.rf
  have hl := lv_entry ([.ref h0, .int (nI n)]) (n := 6) (Nat.le_of_ble_eq_true rfl)
  rw [lg_entry_eq]
  generalize (lg_sl ([.ref h0, .int (nI n)]) ++ List.replicate (6 - (lg_sl ([.ref h0, .int (nI n)])).length) Slot.unset).toArray = ls at hl ⊢
  obtain ⟨H, hHe⟩ : ∃ H, H = s.heap := ⟨_, rfl⟩
  rw [← hHe] at hP ⊢
  have hS : va_S A s.heap H [] := by rw [hHe]; exact hS
  have hl : lv_has ls 6 [(0, .ref h0), (1, .int (nI n))] := hl
  have hN0 : N ≤ 3149 := hK4.1
  clear hHe
  generalize hlc : ([] : List Loc) = locs at hS ⊢
  clear hlc
  refine lv_aload_n hx hb dX7_known_0 rfl (lv_at hl 0 rfl) ?_
  refine va_get (D := (dC, dI)) (ci := 7) (v := .ref qf) (C := RX7) (T := TX7) (N := 19) hx hb hts iX7 hown hK hP 0 rfl rfl 15 (by decide) (hts _ (bP 301 rfl)) (fun _ h9 => h9) (kJ_at hT 2 rfl) dX7_known_1 ?_
  refine lv_aload_n hx hb dX7_known_4 rfl (lv_at hl 0 rfl) ?_
  refine va_get (D := (dC, dI)) (ci := 7) (v := .int (nI N)) (C := RX7) (T := TX7) (N := 19) hx hb hts iX7 hown hK hP 0 rfl rfl 18 (by decide) (hts _ (bP 476 rfl)) (fun _ h9 => h9) (kJ_at hT 0 rfl) dX7_known_5 ?_
  refine va_iald hx hb hK hP 2 1 rfl rfl (vp_in_nI (by omega) (by decide)) dX7_known_8 ?_
  obtain ⟨v, hv, ev⟩ := hK4.2.1 N (Nat.le_refl _)
  refine k_i (v := nI v) (by rw [nI_clamp (by omega)]; exact ev) ?_
  refine lv_istore_n (lv' := [(2, .int (nI v)), (0, .ref h0), (1, .int (nI n))]) hx hb dX7_known_9 rfl hl (by decide) rfl (fun ls hl => ?_)
  refine lv_iload_n hx hb dX7_known_10 rfl (lv_at hl 0 rfl) ?_
  refine lv_iload_n hx hb dX7_known_11 rfl (lv_at hl 2 rfl) ?_
  refine lv_iadd hx hb dX7_known_12 ?_
  refine k_i (v := nI (v + n)) (nI_add _ _) ?_
  refine lv_aload_n hx hb dX7_known_13 rfl (lv_at hl 1 rfl) ?_
  refine va_get (D := (dC, dI)) (ci := 7) (v := .ref ql) (C := RX7) (T := TX7) (N := 19) hx hb hts iX7 hown hK hP 0 rfl rfl 14 (by decide) (hts _ (bP 300 rfl)) (fun _ h9 => h9) (kJ_at hT 1 rfl) dX7_known_14 ?_
  refine va_alen hx hb hK hP 1 0 rfl rfl (v := 6400) rfl dX7_known_17 ?_
  refine lv_icmp_gt (tgt := 35) hx hb dX7_known_18 (by decide) (fun h18 => ?_) (fun h18 => ?_)
  · refine lv_iconst (v := 0) hx hb dX7_known_35 (by decide) ?_
    exact W.iret (v := 0) hx hb hr (fun t ht hW => ⟨⟨0, (N, ft, fF, fN, fB), rfl, ⟨hT, hK4⟩, by rw [ht]; exact hP, va_K.moved hW.alike hK, hD⟩, hS.F ht⟩) hS.2.2 dX7_known_36
  · have hvn : v + n ≤ 6400 := Nat.le_of_not_lt (fun h => h18 (nI_lt (a := 6400) h (by omega)))
    refine lv_aload_n hx hb dX7_known_21 rfl (lv_at hl 1 rfl) ?_
    refine va_get (D := (dC, dI)) (ci := 7) (v := .int (nI N)) (C := RX7) (T := TX7) (N := 19) hx hb hts iX7 hown hK hP 0 rfl rfl 18 (by decide) (hts _ (bP 476 rfl)) (fun _ h9 => h9) (kJ_at hT 0 rfl) dX7_known_22 ?_
    refine lv_iconst (v := 1) hx hb dX7_known_25 (by decide) ?_
    refine lv_iadd hx hb dX7_known_26 ?_
    refine k_i (v := nI (N + 1)) (nI_1 _) ?_
    refine lv_aload_n hx hb dX7_known_27 rfl (lv_at hl 1 rfl) ?_
    refine va_get (D := (dC, dI)) (ci := 7) (v := .ref qf) (C := RX7) (T := TX7) (N := 19) hx hb hts iX7 hown hK hP 0 rfl rfl 15 (by decide) (hts _ (bP 301 rfl)) (fun _ h9 => h9) (kJ_at hT 2 rfl) dX7_known_28 ?_
    refine va_alen hx hb hK hP 2 1 rfl rfl (v := 3150) rfl dX7_known_31 ?_
    refine lv_icmp_lt (tgt := 37) hx hb dX7_known_32 (by decide) (fun h32 => ?_) (fun h32 => ?_)
    · have hN1 : N + 1 < 3150 := (nI_ltI (b := 3150) (by have := hK4.1; omega) (by decide)).mp h32
      refine lv_iload_n hx hb dX7_known_37 rfl (lv_at hl 2 rfl) ?_
      refine lv_istore_n (lv' := [(3, .int (nI n)), (2, .int (nI v)), (0, .ref h0), (1, .int (nI n))]) hx hb dX7_known_38 rfl hl (by decide) rfl (fun ls hl => ?_)
      refine lv_iconst (v := 0) hx hb dX7_known_39 (by decide) ?_
      refine lv_istore (lv' := [(4, .int 0), (3, .int (nI n)), (2, .int (nI v)), (0, .ref h0), (1, .int (nI n))]) hx hb dX7_known_40 hl (by decide) rfl (fun ls hl => ?_)
      obtain ⟨i, hi, e0⟩ : ∃ i : Nat, i ≤ n ∧ (0 : Int32) = nI i := ⟨0, by omega, rfl⟩
      obtain ⟨hs, ehs⟩ : ∃ x : Int32, x = nI n := ⟨_, rfl⟩
      have hl2 : lv_has ls 6 [(4, .int (nI i)), (3, .int hs), (2, .int (nI v)), (0, .ref h0), (1, .int (nI n))] := by rw [← e0, ehs]; exact lv_sub hl [0, 1, 2, 3, 4] rfl
      clear e0 ehs hl
      have hl := hl2
      clear hl2
      obtain ⟨k, hk⟩ : ∃ k : Nat, i + k = n := ⟨n - i, by omega⟩
      induction k generalizing i hs ls with
      | succ k ih =>
        refine lv_iload hx hb dX7_known_42 (lv_at hl 0 rfl) ?_
        refine lv_iload_n hx hb dX7_known_44 rfl (lv_at hl 4 rfl) ?_
        refine lv_icmp_ge (tgt := 69) hx hb dX7_known_45 (by decide) (fun h => absurd h (nI_ge (by omega) (by omega))) (fun _ => ?_)
        refine lv_iload_n hx hb dX7_known_48 rfl (lv_at hl 1 rfl) ?_
        refine lv_bipush (v := 31) hx hb dX7_known_49 (by decide) ?_
        refine lv_imul hx hb dX7_known_51 ?_
        refine lv_topi (fun z1 ez1 => ?_)
        refine lv_aload_n hx hb dX7_known_52 rfl (lv_at hl 3 rfl) ?_
        refine va_get (D := (dC, dI)) (ci := 7) (v := .ref ql) (C := RX7) (T := TX7) (N := 19) hx hb hts iX7 hown hK hP 0 rfl rfl 14 (by decide) (hts _ (bP 300 rfl)) (fun _ h9 => h9) (kJ_at hT 1 rfl) dX7_known_53 ?_
        refine lv_iload_n hx hb dX7_known_56 rfl (lv_at hl 2 rfl) ?_
        refine lv_iload hx hb dX7_known_57 (lv_at hl 0 rfl) ?_
        refine lv_iadd hx hb dX7_known_59 ?_
        refine k_i (v := nI (v + i)) (nI_add _ _) ?_
        refine va_bald hx hb hK hP 1 0 rfl rfl (vp_in_nI (by omega) (by decide)) dX7_known_60 ?_
        refine lv_topi (fun z2 ez2 => ?_)
        refine lv_iadd hx hb dX7_known_61 ?_
        refine lv_topi (fun z3 ez3 => ?_)
        refine lv_istore_n (lv' := [(3, .int z3), (4, .int (nI i)), (2, .int (nI v)), (0, .ref h0), (1, .int (nI n))]) hx hb dX7_known_62 rfl hl (by decide) rfl (fun ls hl => ?_)
        refine lv_iinc (v := nI (i + 1)) (lv' := [(4, .int (nI (i + 1))), (3, .int z3), (2, .int (nI v)), (0, .ref h0), (1, .int (nI n))]) hx hb dX7_known_63 hl (k := 1) rfl (nI_1 _) (by decide) rfl (fun ls hl => ?_)
        refine lv_goto (tgt := 42) hx hb dX7_known_66 (by decide) ?_
        apply ih (i := i + 1) (hs := z3) <;> first | assumption | omega
      | zero =>
        refine lv_iload hx hb dX7_known_42 (lv_at hl 0 rfl) ?_
        refine lv_iload_n hx hb dX7_known_44 rfl (lv_at hl 4 rfl) ?_
        refine lv_icmp_ge (tgt := 69) hx hb dX7_known_45 (by decide) (fun _ => ?_) (fun h => absurd (nI_le (by omega) (by omega)) h)
        refine lv_iload_n hx hb dX7_known_69 rfl (lv_at hl 1 rfl) ?_
        refine lv_sipush (v := 511) hx hb dX7_known_70 (by decide) ?_
        refine lv_iand hx hb dX7_known_73 ?_
        obtain ⟨hh, hhl, ehh⟩ := pk_andE hs (m := 511) 9 (by decide)
        have hhl : hh < 512 := hhl
        refine k_i (v := nI hh) ehh ?_
        refine lv_istore_n (lv' := [(3, .int (nI hh)), (4, .int (nI i)), (2, .int (nI v)), (0, .ref h0), (1, .int (nI n))]) hx hb dX7_known_74 rfl hl (by decide) rfl (fun ls hl => ?_)
        refine lv_aload_n hx hb dX7_known_75 rfl (lv_at hl 3 rfl) ?_
        refine va_get (D := (dC, dI)) (ci := 7) (v := .ref qb) (C := RX7) (T := TX7) (N := 19) hx hb hts iX7 hown hK hP 0 rfl rfl 17 (by decide) (hts _ (bP 303 rfl)) (fun _ h9 => h9) (kJ_at hT 4 rfl) dX7_known_76 ?_
        refine lv_iload_n hx hb dX7_known_79 rfl (lv_at hl 0 rfl) ?_
        refine va_iald hx hb hK hP 4 3 rfl rfl (vp_in_nI (by omega) (by decide)) dX7_known_80 ?_
        have ho := hK4.2.2.1 hh hhl
        refine k_i (v := fB hh) (by rw [nI_clamp (by omega)]) ?_
        refine lv_istore (lv' := [(4, .int (fB hh)), (3, .int (nI hh)), (2, .int (nI v)), (0, .ref h0), (1, .int (nI n))]) hx hb dX7_known_81 hl (by decide) rfl (fun ls hl => ?_)
        refine lv_iconst (v := 0) hx hb dX7_known_83 (by decide) ?_
        refine lv_istore (lv' := [(5, .int 0), (4, .int (fB hh)), (3, .int (nI hh)), (2, .int (nI v)), (0, .ref h0), (1, .int (nI n))]) hx hb dX7_known_84 hl (by decide) rfl (fun ls hl => ?_)
        obtain ⟨tt, hti, e0⟩ : ∃ tt : Nat, tt ≤ N + 1 ∧ (0 : Int32) = nI tt := ⟨0, by omega, rfl⟩
        obtain ⟨oo, eoo⟩ : ∃ x : Int32, x = fB hh := ⟨_, rfl⟩
        have hoo : oo = -1 ∨ ∃ j : Nat, j < N ∧ oo = nI j := by rw [eoo]; exact ho
        have hl2 : lv_has ls 6 [(5, .int (nI tt)), (4, .int oo), (3, .int (nI hh)), (2, .int (nI v)), (0, .ref h0), (1, .int (nI n))] := by rw [← e0, eoo]; exact lv_sub hl [0, 1, 2, 3, 4, 5] rfl
        have hxo : fB hh = -1 ∨ ∃ j : Nat, j < N ∧ fB hh = nI j := ho
        clear e0 eoo ho hl
        have hl := hl2
        clear hl2
        obtain ⟨k, hk⟩ : ∃ k : Nat, tt + k = N + 1 := ⟨N + 1 - tt, by omega⟩
        induction k generalizing tt oo ls H locs with
        | zero =>
          refine lv_iload hx hb dX7_known_86 (lv_at hl 0 rfl) ?_
          refine lv_aload_n hx hb dX7_known_88 rfl (lv_at hl 4 rfl) ?_
          refine va_get (D := (dC, dI)) (ci := 7) (v := .int (nI N)) (C := RX7) (T := TX7) (N := 19) hx hb hts iX7 hown hK hP 0 rfl rfl 18 (by decide) (hts _ (bP 476 rfl)) (fun _ h9 => h9) (kJ_at hT 0 rfl) dX7_known_89 ?_
          refine lv_icmp_gt (tgt := 129) hx hb dX7_known_92 (by decide) (fun _ => ?_) (fun h => absurd (nI_lt (by omega) (by omega)) h)
          refine lv_aload_n hx hb dX7_known_129 rfl (lv_at hl 4 rfl) ?_
          refine va_get (D := (dC, dI)) (ci := 7) (v := .ref qn) (C := RX7) (T := TX7) (N := 19) hx hb hts iX7 hown hK hP 0 rfl rfl 16 (by decide) (hts _ (bP 302 rfl)) (fun _ h9 => h9) (kJ_at hT 3 rfl) dX7_known_130 ?_
          refine lv_aload_n hx hb dX7_known_133 rfl (lv_at hl 4 rfl) ?_
          refine va_get (D := (dC, dI)) (ci := 7) (v := .int (nI N)) (C := RX7) (T := TX7) (N := 19) hx hb hts iX7 hown hK hP 0 rfl rfl 18 (by decide) (hts _ (bP 476 rfl)) (fun _ h9 => h9) (kJ_at hT 0 rfl) dX7_known_134 ?_
          refine lv_aload_n hx hb dX7_known_137 rfl (lv_at hl 4 rfl) ?_
          refine va_get (D := (dC, dI)) (ci := 7) (v := .ref qb) (C := RX7) (T := TX7) (N := 19) hx hb hts iX7 hown hK hP 0 rfl rfl 17 (by decide) (hts _ (bP 303 rfl)) (fun _ h9 => h9) (kJ_at hT 4 rfl) dX7_known_138 ?_
          refine lv_iload_n hx hb dX7_known_141 rfl (lv_at hl 2 rfl) ?_
          refine va_iald hx hb hK hP 4 3 rfl rfl (vp_in_nI (by omega) (by decide)) dX7_known_142 ?_
          refine k_i (v := fB hh) (by rw [nI_clamp (by omega)]) ?_
          refine kq_iast hx hb hK hP hD hS 3 2 rfl rfl (vp_in_nI (by omega) (by decide)) dX7_known_143 (fun H locs fN1 efN1 hP hD hS => ?_)
          have hP : va_P (dC, dI) vwCl [(h0, .inr (7, ft)), (ql, .inl (cl, 6400, .inl g)), (qf, .inl (cf, 3150, .inl fF)), (qn, .inl (cn, 3150, .inl fN1)), (qb, .inl (cb, 512, .inl fB))] H := hP
          have hD : va_D A [(h0, .inr (7, ft)), (ql, .inl (cl, 6400, .inl g)), (qf, .inl (cf, 3150, .inl fF)), (qn, .inl (cn, 3150, .inl fN1)), (qb, .inl (cb, 512, .inl fB))] := hD
          refine lv_aload_n hx hb dX7_known_144 rfl (lv_at hl 4 rfl) ?_
          refine va_get (D := (dC, dI)) (ci := 7) (v := .ref qb) (C := RX7) (T := TX7) (N := 19) hx hb hts iX7 hown hK hP 0 rfl rfl 17 (by decide) (hts _ (bP 303 rfl)) (fun _ h9 => h9) (kJ_at hT 4 rfl) dX7_known_145 ?_
          refine lv_iload_n hx hb dX7_known_148 rfl (lv_at hl 2 rfl) ?_
          refine lv_aload_n hx hb dX7_known_149 rfl (lv_at hl 4 rfl) ?_
          refine va_get (D := (dC, dI)) (ci := 7) (v := .int (nI N)) (C := RX7) (T := TX7) (N := 19) hx hb hts iX7 hown hK hP 0 rfl rfl 18 (by decide) (hts _ (bP 476 rfl)) (fun _ h9 => h9) (kJ_at hT 0 rfl) dX7_known_150 ?_
          refine kq_iast hx hb hK hP hD hS 4 3 rfl rfl (vp_in_nI (by omega) (by decide)) dX7_known_153 (fun H locs fB1 efB1 hP hD hS => ?_)
          have hP : va_P (dC, dI) vwCl [(h0, .inr (7, ft)), (ql, .inl (cl, 6400, .inl g)), (qf, .inl (cf, 3150, .inl fF)), (qn, .inl (cn, 3150, .inl fN1)), (qb, .inl (cb, 512, .inl fB1))] H := hP
          have hD : va_D A [(h0, .inr (7, ft)), (ql, .inl (cl, 6400, .inl g)), (qf, .inl (cf, 3150, .inl fF)), (qn, .inl (cn, 3150, .inl fN1)), (qb, .inl (cb, 512, .inl fB1))] := hD
          refine lv_aload_n hx hb dX7_known_154 rfl (lv_at hl 4 rfl) ?_
          refine lv_dup hx hb dX7_known_155 rfl ?_
          refine va_get (D := (dC, dI)) (ci := 7) (v := .int (nI N)) (C := RX7) (T := TX7) (N := 19) hx hb hts iX7 hown hK hP 0 rfl rfl 18 (by decide) (hts _ (bP 476 rfl)) (fun _ h9 => h9) (kJ_at hT 0 rfl) dX7_known_156 ?_
          refine lv_iconst (v := 1) hx hb dX7_known_159 (by decide) ?_
          refine lv_iadd hx hb dX7_known_160 ?_
          refine k_i (v := nI (N + 1)) (nI_1 _) ?_
          refine kq_put [(18, .int (nI (N + 1))), (14, .ref ql), (15, .ref qf), (16, .ref qn), (17, .ref qb), (2, .ref qk), (3, .ref qv), (4, .ref qi), (5, .ref qs), (1, .int 0)] hts iX7 tyX7 tyX7_ok nmX7 hx hb hown hK hP hD hS 0 rfl rfl hT 18 (by decide) (by decide) (hts _ (bP 476 rfl)) rfl (ty := .int) (by decide +kernel) (v := .int (nI (N + 1))) rfl rfl dX7_known_161 (fun f h => kJ_put h _ _ (by decide)) (fun H locs ft hT hP hD hS => ?_)
          have hP : va_P (dC, dI) vwCl [(h0, .inr (7, ft)), (ql, .inl (cl, 6400, .inl g)), (qf, .inl (cf, 3150, .inl fF)), (qn, .inl (cn, 3150, .inl fN1)), (qb, .inl (cb, 512, .inl fB1))] H := hP
          have hD : va_D A [(h0, .inr (7, ft)), (ql, .inl (cl, 6400, .inl g)), (qf, .inl (cf, 3150, .inl fF)), (qn, .inl (cn, 3150, .inl fN1)), (qb, .inl (cb, 512, .inl fB1))] := hD
          refine lv_aload_n hx hb dX7_known_164 rfl (lv_at hl 4 rfl) ?_
          refine va_get (D := (dC, dI)) (ci := 7) (v := .ref qf) (C := RX7) (T := TX7) (N := 19) hx hb hts iX7 hown hK hP 0 rfl rfl 15 (by decide) (hts _ (bP 301 rfl)) (fun _ h9 => h9) (kJ_at hT 2 rfl) dX7_known_165 ?_
          refine lv_aload_n hx hb dX7_known_168 rfl (lv_at hl 4 rfl) ?_
          refine va_get (D := (dC, dI)) (ci := 7) (v := .int (nI (N + 1))) (C := RX7) (T := TX7) (N := 19) hx hb hts iX7 hown hK hP 0 rfl rfl 18 (by decide) (hts _ (bP 476 rfl)) (fun _ h9 => h9) (kJ_at hT 0 rfl) dX7_known_169 ?_
          refine lv_iload_n hx hb dX7_known_172 rfl (lv_at hl 3 rfl) ?_
          refine lv_iload_n hx hb dX7_known_173 rfl (lv_at hl 5 rfl) ?_
          refine lv_iadd hx hb dX7_known_174 ?_
          refine k_i (v := nI (v + n)) (nI_add _ _) ?_
          refine kq_iast hx hb hK hP hD hS 2 1 rfl rfl (vp_in_nI (by omega) (by decide)) dX7_known_175 (fun H locs fF1 efF1 hP hD hS => ?_)
          have hP : va_P (dC, dI) vwCl [(h0, .inr (7, ft)), (ql, .inl (cl, 6400, .inl g)), (qf, .inl (cf, 3150, .inl fF1)), (qn, .inl (cn, 3150, .inl fN1)), (qb, .inl (cb, 512, .inl fB1))] H := hP
          have hD : va_D A [(h0, .inr (7, ft)), (ql, .inl (cl, 6400, .inl g)), (qf, .inl (cf, 3150, .inl fF1)), (qn, .inl (cn, 3150, .inl fN1)), (qb, .inl (cb, 512, .inl fB1))] := hD
          refine lv_aload_n hx hb dX7_known_176 rfl (lv_at hl 4 rfl) ?_
          refine va_get (D := (dC, dI)) (ci := 7) (v := .int (nI (N + 1))) (C := RX7) (T := TX7) (N := 19) hx hb hts iX7 hown hK hP 0 rfl rfl 18 (by decide) (hts _ (bP 476 rfl)) (fun _ h9 => h9) (kJ_at hT 0 rfl) dX7_known_177 ?_
          refine lv_iconst (v := 1) hx hb dX7_known_180 (by decide) ?_
          refine lv_isub hx hb dX7_known_181 ?_
          refine lv_topi (fun z4 ez4 => ?_)
          exact W.iret (v := z4) hx hb hr (fun t ht hW => ⟨⟨z4, (N + 1, ft, fF1, fN1, fB1), rfl, ⟨hT, hK4.next (h := hh) (v := v + n) (x := fB hh) hN1 hvn hxo hhl (by rw [efN1, nI_clamp (by omega)]) (by rw [efB1, nI_clamp (by omega)]) (by rw [efF1, nI_clamp (by omega)])⟩, by rw [ht]; exact hP, va_K.moved hW.alike hK, hD⟩, hS.F ht⟩) hS.2.2 dX7_known_182
        | succ k ih =>
          refine lv_iload hx hb dX7_known_86 (lv_at hl 0 rfl) ?_
          refine lv_aload_n hx hb dX7_known_88 rfl (lv_at hl 4 rfl) ?_
          refine va_get (D := (dC, dI)) (ci := 7) (v := .int (nI N)) (C := RX7) (T := TX7) (N := 19) hx hb hts iX7 hown hK hP 0 rfl rfl 18 (by decide) (hts _ (bP 476 rfl)) (fun _ h9 => h9) (kJ_at hT 0 rfl) dX7_known_89 ?_
          refine lv_icmp_gt (tgt := 129) hx hb dX7_known_92 (by decide) (fun _ => ?_) (fun _ => ?_)
          · refine lv_aload_n hx hb dX7_known_129 rfl (lv_at hl 4 rfl) ?_
            refine va_get (D := (dC, dI)) (ci := 7) (v := .ref qn) (C := RX7) (T := TX7) (N := 19) hx hb hts iX7 hown hK hP 0 rfl rfl 16 (by decide) (hts _ (bP 302 rfl)) (fun _ h9 => h9) (kJ_at hT 3 rfl) dX7_known_130 ?_
            refine lv_aload_n hx hb dX7_known_133 rfl (lv_at hl 4 rfl) ?_
            refine va_get (D := (dC, dI)) (ci := 7) (v := .int (nI N)) (C := RX7) (T := TX7) (N := 19) hx hb hts iX7 hown hK hP 0 rfl rfl 18 (by decide) (hts _ (bP 476 rfl)) (fun _ h9 => h9) (kJ_at hT 0 rfl) dX7_known_134 ?_
            refine lv_aload_n hx hb dX7_known_137 rfl (lv_at hl 4 rfl) ?_
            refine va_get (D := (dC, dI)) (ci := 7) (v := .ref qb) (C := RX7) (T := TX7) (N := 19) hx hb hts iX7 hown hK hP 0 rfl rfl 17 (by decide) (hts _ (bP 303 rfl)) (fun _ h9 => h9) (kJ_at hT 4 rfl) dX7_known_138 ?_
            refine lv_iload_n hx hb dX7_known_141 rfl (lv_at hl 2 rfl) ?_
            refine va_iald hx hb hK hP 4 3 rfl rfl (vp_in_nI (by omega) (by decide)) dX7_known_142 ?_
            refine k_i (v := fB hh) (by rw [nI_clamp (by omega)]) ?_
            refine kq_iast hx hb hK hP hD hS 3 2 rfl rfl (vp_in_nI (by omega) (by decide)) dX7_known_143 (fun H locs fN1 efN1 hP hD hS => ?_)
            have hP : va_P (dC, dI) vwCl [(h0, .inr (7, ft)), (ql, .inl (cl, 6400, .inl g)), (qf, .inl (cf, 3150, .inl fF)), (qn, .inl (cn, 3150, .inl fN1)), (qb, .inl (cb, 512, .inl fB))] H := hP
            have hD : va_D A [(h0, .inr (7, ft)), (ql, .inl (cl, 6400, .inl g)), (qf, .inl (cf, 3150, .inl fF)), (qn, .inl (cn, 3150, .inl fN1)), (qb, .inl (cb, 512, .inl fB))] := hD
            refine lv_aload_n hx hb dX7_known_144 rfl (lv_at hl 4 rfl) ?_
            refine va_get (D := (dC, dI)) (ci := 7) (v := .ref qb) (C := RX7) (T := TX7) (N := 19) hx hb hts iX7 hown hK hP 0 rfl rfl 17 (by decide) (hts _ (bP 303 rfl)) (fun _ h9 => h9) (kJ_at hT 4 rfl) dX7_known_145 ?_
            refine lv_iload_n hx hb dX7_known_148 rfl (lv_at hl 2 rfl) ?_
            refine lv_aload_n hx hb dX7_known_149 rfl (lv_at hl 4 rfl) ?_
            refine va_get (D := (dC, dI)) (ci := 7) (v := .int (nI N)) (C := RX7) (T := TX7) (N := 19) hx hb hts iX7 hown hK hP 0 rfl rfl 18 (by decide) (hts _ (bP 476 rfl)) (fun _ h9 => h9) (kJ_at hT 0 rfl) dX7_known_150 ?_
            refine kq_iast hx hb hK hP hD hS 4 3 rfl rfl (vp_in_nI (by omega) (by decide)) dX7_known_153 (fun H locs fB1 efB1 hP hD hS => ?_)
            have hP : va_P (dC, dI) vwCl [(h0, .inr (7, ft)), (ql, .inl (cl, 6400, .inl g)), (qf, .inl (cf, 3150, .inl fF)), (qn, .inl (cn, 3150, .inl fN1)), (qb, .inl (cb, 512, .inl fB1))] H := hP
            have hD : va_D A [(h0, .inr (7, ft)), (ql, .inl (cl, 6400, .inl g)), (qf, .inl (cf, 3150, .inl fF)), (qn, .inl (cn, 3150, .inl fN1)), (qb, .inl (cb, 512, .inl fB1))] := hD
            refine lv_aload_n hx hb dX7_known_154 rfl (lv_at hl 4 rfl) ?_
            refine lv_dup hx hb dX7_known_155 rfl ?_
            refine va_get (D := (dC, dI)) (ci := 7) (v := .int (nI N)) (C := RX7) (T := TX7) (N := 19) hx hb hts iX7 hown hK hP 0 rfl rfl 18 (by decide) (hts _ (bP 476 rfl)) (fun _ h9 => h9) (kJ_at hT 0 rfl) dX7_known_156 ?_
            refine lv_iconst (v := 1) hx hb dX7_known_159 (by decide) ?_
            refine lv_iadd hx hb dX7_known_160 ?_
            refine k_i (v := nI (N + 1)) (nI_1 _) ?_
            refine kq_put [(18, .int (nI (N + 1))), (14, .ref ql), (15, .ref qf), (16, .ref qn), (17, .ref qb), (2, .ref qk), (3, .ref qv), (4, .ref qi), (5, .ref qs), (1, .int 0)] hts iX7 tyX7 tyX7_ok nmX7 hx hb hown hK hP hD hS 0 rfl rfl hT 18 (by decide) (by decide) (hts _ (bP 476 rfl)) rfl (ty := .int) (by decide +kernel) (v := .int (nI (N + 1))) rfl rfl dX7_known_161 (fun f h => kJ_put h _ _ (by decide)) (fun H locs ft hT hP hD hS => ?_)
            have hP : va_P (dC, dI) vwCl [(h0, .inr (7, ft)), (ql, .inl (cl, 6400, .inl g)), (qf, .inl (cf, 3150, .inl fF)), (qn, .inl (cn, 3150, .inl fN1)), (qb, .inl (cb, 512, .inl fB1))] H := hP
            have hD : va_D A [(h0, .inr (7, ft)), (ql, .inl (cl, 6400, .inl g)), (qf, .inl (cf, 3150, .inl fF)), (qn, .inl (cn, 3150, .inl fN1)), (qb, .inl (cb, 512, .inl fB1))] := hD
            refine lv_aload_n hx hb dX7_known_164 rfl (lv_at hl 4 rfl) ?_
            refine va_get (D := (dC, dI)) (ci := 7) (v := .ref qf) (C := RX7) (T := TX7) (N := 19) hx hb hts iX7 hown hK hP 0 rfl rfl 15 (by decide) (hts _ (bP 301 rfl)) (fun _ h9 => h9) (kJ_at hT 2 rfl) dX7_known_165 ?_
            refine lv_aload_n hx hb dX7_known_168 rfl (lv_at hl 4 rfl) ?_
            refine va_get (D := (dC, dI)) (ci := 7) (v := .int (nI (N + 1))) (C := RX7) (T := TX7) (N := 19) hx hb hts iX7 hown hK hP 0 rfl rfl 18 (by decide) (hts _ (bP 476 rfl)) (fun _ h9 => h9) (kJ_at hT 0 rfl) dX7_known_169 ?_
            refine lv_iload_n hx hb dX7_known_172 rfl (lv_at hl 3 rfl) ?_
            refine lv_iload_n hx hb dX7_known_173 rfl (lv_at hl 5 rfl) ?_
            refine lv_iadd hx hb dX7_known_174 ?_
            refine k_i (v := nI (v + n)) (nI_add _ _) ?_
            refine kq_iast hx hb hK hP hD hS 2 1 rfl rfl (vp_in_nI (by omega) (by decide)) dX7_known_175 (fun H locs fF1 efF1 hP hD hS => ?_)
            have hP : va_P (dC, dI) vwCl [(h0, .inr (7, ft)), (ql, .inl (cl, 6400, .inl g)), (qf, .inl (cf, 3150, .inl fF1)), (qn, .inl (cn, 3150, .inl fN1)), (qb, .inl (cb, 512, .inl fB1))] H := hP
            have hD : va_D A [(h0, .inr (7, ft)), (ql, .inl (cl, 6400, .inl g)), (qf, .inl (cf, 3150, .inl fF1)), (qn, .inl (cn, 3150, .inl fN1)), (qb, .inl (cb, 512, .inl fB1))] := hD
            refine lv_aload_n hx hb dX7_known_176 rfl (lv_at hl 4 rfl) ?_
            refine va_get (D := (dC, dI)) (ci := 7) (v := .int (nI (N + 1))) (C := RX7) (T := TX7) (N := 19) hx hb hts iX7 hown hK hP 0 rfl rfl 18 (by decide) (hts _ (bP 476 rfl)) (fun _ h9 => h9) (kJ_at hT 0 rfl) dX7_known_177 ?_
            refine lv_iconst (v := 1) hx hb dX7_known_180 (by decide) ?_
            refine lv_isub hx hb dX7_known_181 ?_
            refine lv_topi (fun z5 ez5 => ?_)
            exact W.iret (v := z5) hx hb hr (fun t ht hW => ⟨⟨z5, (N + 1, ft, fF1, fN1, fB1), rfl, ⟨hT, hK4.next (h := hh) (v := v + n) (x := fB hh) hN1 hvn hxo hhl (by rw [efN1, nI_clamp (by omega)]) (by rw [efB1, nI_clamp (by omega)]) (by rw [efF1, nI_clamp (by omega)])⟩, by rw [ht]; exact hP, va_K.moved hW.alike hK, hD⟩, hS.F ht⟩) hS.2.2 dX7_known_182
          · refine lv_iload hx hb dX7_known_95 (lv_at hl 1 rfl) ?_
            refine lv_if_lt (tgt := 129) hx hb dX7_known_97 (by decide) (fun _ => ?_) (fun h97 => ?_)
            · refine lv_aload_n hx hb dX7_known_129 rfl (lv_at hl 4 rfl) ?_
              refine va_get (D := (dC, dI)) (ci := 7) (v := .ref qn) (C := RX7) (T := TX7) (N := 19) hx hb hts iX7 hown hK hP 0 rfl rfl 16 (by decide) (hts _ (bP 302 rfl)) (fun _ h9 => h9) (kJ_at hT 3 rfl) dX7_known_130 ?_
              refine lv_aload_n hx hb dX7_known_133 rfl (lv_at hl 4 rfl) ?_
              refine va_get (D := (dC, dI)) (ci := 7) (v := .int (nI N)) (C := RX7) (T := TX7) (N := 19) hx hb hts iX7 hown hK hP 0 rfl rfl 18 (by decide) (hts _ (bP 476 rfl)) (fun _ h9 => h9) (kJ_at hT 0 rfl) dX7_known_134 ?_
              refine lv_aload_n hx hb dX7_known_137 rfl (lv_at hl 4 rfl) ?_
              refine va_get (D := (dC, dI)) (ci := 7) (v := .ref qb) (C := RX7) (T := TX7) (N := 19) hx hb hts iX7 hown hK hP 0 rfl rfl 17 (by decide) (hts _ (bP 303 rfl)) (fun _ h9 => h9) (kJ_at hT 4 rfl) dX7_known_138 ?_
              refine lv_iload_n hx hb dX7_known_141 rfl (lv_at hl 2 rfl) ?_
              refine va_iald hx hb hK hP 4 3 rfl rfl (vp_in_nI (by omega) (by decide)) dX7_known_142 ?_
              refine k_i (v := fB hh) (by rw [nI_clamp (by omega)]) ?_
              refine kq_iast hx hb hK hP hD hS 3 2 rfl rfl (vp_in_nI (by omega) (by decide)) dX7_known_143 (fun H locs fN1 efN1 hP hD hS => ?_)
              have hP : va_P (dC, dI) vwCl [(h0, .inr (7, ft)), (ql, .inl (cl, 6400, .inl g)), (qf, .inl (cf, 3150, .inl fF)), (qn, .inl (cn, 3150, .inl fN1)), (qb, .inl (cb, 512, .inl fB))] H := hP
              have hD : va_D A [(h0, .inr (7, ft)), (ql, .inl (cl, 6400, .inl g)), (qf, .inl (cf, 3150, .inl fF)), (qn, .inl (cn, 3150, .inl fN1)), (qb, .inl (cb, 512, .inl fB))] := hD
              refine lv_aload_n hx hb dX7_known_144 rfl (lv_at hl 4 rfl) ?_
              refine va_get (D := (dC, dI)) (ci := 7) (v := .ref qb) (C := RX7) (T := TX7) (N := 19) hx hb hts iX7 hown hK hP 0 rfl rfl 17 (by decide) (hts _ (bP 303 rfl)) (fun _ h9 => h9) (kJ_at hT 4 rfl) dX7_known_145 ?_
              refine lv_iload_n hx hb dX7_known_148 rfl (lv_at hl 2 rfl) ?_
              refine lv_aload_n hx hb dX7_known_149 rfl (lv_at hl 4 rfl) ?_
              refine va_get (D := (dC, dI)) (ci := 7) (v := .int (nI N)) (C := RX7) (T := TX7) (N := 19) hx hb hts iX7 hown hK hP 0 rfl rfl 18 (by decide) (hts _ (bP 476 rfl)) (fun _ h9 => h9) (kJ_at hT 0 rfl) dX7_known_150 ?_
              refine kq_iast hx hb hK hP hD hS 4 3 rfl rfl (vp_in_nI (by omega) (by decide)) dX7_known_153 (fun H locs fB1 efB1 hP hD hS => ?_)
              have hP : va_P (dC, dI) vwCl [(h0, .inr (7, ft)), (ql, .inl (cl, 6400, .inl g)), (qf, .inl (cf, 3150, .inl fF)), (qn, .inl (cn, 3150, .inl fN1)), (qb, .inl (cb, 512, .inl fB1))] H := hP
              have hD : va_D A [(h0, .inr (7, ft)), (ql, .inl (cl, 6400, .inl g)), (qf, .inl (cf, 3150, .inl fF)), (qn, .inl (cn, 3150, .inl fN1)), (qb, .inl (cb, 512, .inl fB1))] := hD
              refine lv_aload_n hx hb dX7_known_154 rfl (lv_at hl 4 rfl) ?_
              refine lv_dup hx hb dX7_known_155 rfl ?_
              refine va_get (D := (dC, dI)) (ci := 7) (v := .int (nI N)) (C := RX7) (T := TX7) (N := 19) hx hb hts iX7 hown hK hP 0 rfl rfl 18 (by decide) (hts _ (bP 476 rfl)) (fun _ h9 => h9) (kJ_at hT 0 rfl) dX7_known_156 ?_
              refine lv_iconst (v := 1) hx hb dX7_known_159 (by decide) ?_
              refine lv_iadd hx hb dX7_known_160 ?_
              refine k_i (v := nI (N + 1)) (nI_1 _) ?_
              refine kq_put [(18, .int (nI (N + 1))), (14, .ref ql), (15, .ref qf), (16, .ref qn), (17, .ref qb), (2, .ref qk), (3, .ref qv), (4, .ref qi), (5, .ref qs), (1, .int 0)] hts iX7 tyX7 tyX7_ok nmX7 hx hb hown hK hP hD hS 0 rfl rfl hT 18 (by decide) (by decide) (hts _ (bP 476 rfl)) rfl (ty := .int) (by decide +kernel) (v := .int (nI (N + 1))) rfl rfl dX7_known_161 (fun f h => kJ_put h _ _ (by decide)) (fun H locs ft hT hP hD hS => ?_)
              have hP : va_P (dC, dI) vwCl [(h0, .inr (7, ft)), (ql, .inl (cl, 6400, .inl g)), (qf, .inl (cf, 3150, .inl fF)), (qn, .inl (cn, 3150, .inl fN1)), (qb, .inl (cb, 512, .inl fB1))] H := hP
              have hD : va_D A [(h0, .inr (7, ft)), (ql, .inl (cl, 6400, .inl g)), (qf, .inl (cf, 3150, .inl fF)), (qn, .inl (cn, 3150, .inl fN1)), (qb, .inl (cb, 512, .inl fB1))] := hD
              refine lv_aload_n hx hb dX7_known_164 rfl (lv_at hl 4 rfl) ?_
              refine va_get (D := (dC, dI)) (ci := 7) (v := .ref qf) (C := RX7) (T := TX7) (N := 19) hx hb hts iX7 hown hK hP 0 rfl rfl 15 (by decide) (hts _ (bP 301 rfl)) (fun _ h9 => h9) (kJ_at hT 2 rfl) dX7_known_165 ?_
              refine lv_aload_n hx hb dX7_known_168 rfl (lv_at hl 4 rfl) ?_
              refine va_get (D := (dC, dI)) (ci := 7) (v := .int (nI (N + 1))) (C := RX7) (T := TX7) (N := 19) hx hb hts iX7 hown hK hP 0 rfl rfl 18 (by decide) (hts _ (bP 476 rfl)) (fun _ h9 => h9) (kJ_at hT 0 rfl) dX7_known_169 ?_
              refine lv_iload_n hx hb dX7_known_172 rfl (lv_at hl 3 rfl) ?_
              refine lv_iload_n hx hb dX7_known_173 rfl (lv_at hl 5 rfl) ?_
              refine lv_iadd hx hb dX7_known_174 ?_
              refine k_i (v := nI (v + n)) (nI_add _ _) ?_
              refine kq_iast hx hb hK hP hD hS 2 1 rfl rfl (vp_in_nI (by omega) (by decide)) dX7_known_175 (fun H locs fF1 efF1 hP hD hS => ?_)
              have hP : va_P (dC, dI) vwCl [(h0, .inr (7, ft)), (ql, .inl (cl, 6400, .inl g)), (qf, .inl (cf, 3150, .inl fF1)), (qn, .inl (cn, 3150, .inl fN1)), (qb, .inl (cb, 512, .inl fB1))] H := hP
              have hD : va_D A [(h0, .inr (7, ft)), (ql, .inl (cl, 6400, .inl g)), (qf, .inl (cf, 3150, .inl fF1)), (qn, .inl (cn, 3150, .inl fN1)), (qb, .inl (cb, 512, .inl fB1))] := hD
              refine lv_aload_n hx hb dX7_known_176 rfl (lv_at hl 4 rfl) ?_
              refine va_get (D := (dC, dI)) (ci := 7) (v := .int (nI (N + 1))) (C := RX7) (T := TX7) (N := 19) hx hb hts iX7 hown hK hP 0 rfl rfl 18 (by decide) (hts _ (bP 476 rfl)) (fun _ h9 => h9) (kJ_at hT 0 rfl) dX7_known_177 ?_
              refine lv_iconst (v := 1) hx hb dX7_known_180 (by decide) ?_
              refine lv_isub hx hb dX7_known_181 ?_
              refine lv_topi (fun z6 ez6 => ?_)
              exact W.iret (v := z6) hx hb hr (fun t ht hW => ⟨⟨z6, (N + 1, ft, fF1, fN1, fB1), rfl, ⟨hT, hK4.next (h := hh) (v := v + n) (x := fB hh) hN1 hvn hxo hhl (by rw [efN1, nI_clamp (by omega)]) (by rw [efB1, nI_clamp (by omega)]) (by rw [efF1, nI_clamp (by omega)])⟩, by rw [ht]; exact hP, va_K.moved hW.alike hK, hD⟩, hS.F ht⟩) hS.2.2 dX7_known_182
            · obtain ⟨j, hj, ej⟩ : ∃ j : Nat, j < N ∧ oo = nI j := by
                rcases hoo with e | h
                · exact absurd (by rw [e]; decide) h97
                · exact h
              subst ej
              clear hoo
              refine lv_aload_n hx hb dX7_known_100 rfl (lv_at hl 4 rfl) ?_
              refine lv_iload hx hb dX7_known_101 (lv_at hl 1 rfl) ?_
              refine lv_iload_n hx hb dX7_known_103 rfl (lv_at hl 3 rfl) ?_
              refine lv_iload_n hx hb dX7_known_104 rfl (lv_at hl 5 rfl) ?_
              have hPc := hP.sub (ws' := [(h0, .inr (7, ft)), (ql, .inl (cl, 6400, .inl g)), (qf, .inl (cf, 3150, .inl fF))]) [0, 1, 2] rfl
              have hDc := hD.sub (ws' := [(h0, .inr (7, ft)), (ql, .inl (cl, 6400, .inl g)), (qf, .inl (cf, 3150, .inl fF))]) [0, 1, 2] (by decide) rfl
              have hKc := hK.sub (tys' := [(cl, .byte), (cf, .int)]) [0, 1] rfl
              have hFc := va_free (wc := [(h0, .inr (7, ft)), (ql, .inl (cl, 6400, .inl g)), (qf, .inl (cf, 3150, .inl fF))]) hD hS hA [0, 1, 2] rfl
              refine va_calli (va_runV (As := [.int (nI j), .int (nI v), .int (nI n)]) (rest := []) ⟨hx, hb, hml, hown, hts⟩ (c_Text_isSame l dC dI h0 H.size ft ql qf cl cf g fF N j v n) (cwV 3 hts (gV (y := yX7_isSame) _ 477 478 479 343 474 rfl rfl rfl rfl rfl) rfl rfl rfl (by decide +kernel) ⟨Nat.le_of_ble_eq_true rfl, Nat.le_of_ble_eq_true rfl⟩) ⟨fun a U g mk q => by obtain ⟨q0, q1, qJ, q3, q4, q5, q6, qP, qK, qD⟩ := q; exact ⟨q0, q1, qJ, q3, q4, q5, q6, qP, va_K.moved (u := U) (U := U.calling g mk a) (Vm.Alike.refl U.vm) qK, qD⟩, va_recv hKc hPc (ci := 7) (q0 := 0) rfl rfl, fun U hU hW => ⟨rfl, by rw [hU], kJ_sub hT (by simp), hN0, hj, hvn, hK4.2.1, by rw [hU]; exact hPc, va_K.moved hW.alike hKc, hDc.weaken (fun _ _ _ _ => trivial)⟩⟩ rfl rfl hl.1 rfl (lv_room (Nat.le_of_ble_eq_true rfl)) dX7_known_105 ⟨Nat.le_of_ble_eq_true rfl, Nat.le_of_ble_eq_true rfl⟩) hS (fun q _ h => hFc q h) hFc (fun r u t H1 locs ht hvm hw hB hz1 hk1 hS => ?_)
              clear hw
              obtain ⟨hP1, hK1, hD1⟩ := hB
              rw [ht] at hP1
              have hK1 := va_K.moved hvm.symm hK1
              obtain ⟨hP, hD⟩ := va_join (wr := [(qn, .inl (cn, 3150, .inl fN)), (qb, .inl (cb, 512, .inl fB))]) (w1 := [(h0, .inr (7, ft)), (ql, .inl (cl, 6400, .inl g)), (qf, .inl (cf, 3150, .inl fF))]) hP hD [0, 1, 2] [3, 4] rfl rfl (by decide) (by decide) hk1 hFc hP1 hD1
              have hK := (hK.sub (tys' := [(cn, .int), (cb, .int)]) [2, 3] rfl).app hK1
              clear hPc hDc hKc hFc hP1 hK1 hD1 hk1 hz1
              generalize H1 = H at hP hS ⊢
              have hP : va_P (dC, dI) vwCl [(qn, .inl (cn, 3150, .inl fN)), (qb, .inl (cb, 512, .inl fB)), (h0, .inr (7, ft)), (ql, .inl (cl, 6400, .inl g)), (qf, .inl (cf, 3150, .inl fF))] H := hP
              have hD : va_D A [(qn, .inl (cn, 3150, .inl fN)), (qb, .inl (cb, 512, .inl fB)), (h0, .inr (7, ft)), (ql, .inl (cl, 6400, .inl g)), (qf, .inl (cf, 3150, .inl fF))] := hD
              have hK : va_K (dC, dI) vwCl [(cn, .int), (cb, .int), (cl, .byte), (cf, .int)] s := hK
              have hP := hP.sub (ws' := [(h0, .inr (7, ft)), (ql, .inl (cl, 6400, .inl g)), (qf, .inl (cf, 3150, .inl fF)), (qn, .inl (cn, 3150, .inl fN)), (qb, .inl (cb, 512, .inl fB))]) [2, 3, 4, 0, 1] rfl
              have hD := hD.sub (ws' := [(h0, .inr (7, ft)), (ql, .inl (cl, 6400, .inl g)), (qf, .inl (cf, 3150, .inl fF)), (qn, .inl (cn, 3150, .inl fN)), (qb, .inl (cb, 512, .inl fB))]) [2, 3, 4, 0, 1] (by decide) rfl
              have hK := hK.sub (tys' := [(cl, .byte), (cf, .int), (cn, .int), (cb, .int)]) [2, 3, 0, 1] rfl
              refine lv_if_eq (tgt := 114) hx hb dX7_known_108 (by decide) (fun h108 => ?_) (fun h108 => ?_)
              · refine lv_aload_n hx hb dX7_known_114 rfl (lv_at hl 4 rfl) ?_
                refine va_get (D := (dC, dI)) (ci := 7) (v := .ref qn) (C := RX7) (T := TX7) (N := 19) hx hb hts iX7 hown hK hP 0 rfl rfl 16 (by decide) (hts _ (bP 302 rfl)) (fun _ h9 => h9) (kJ_at hT 3 rfl) dX7_known_115 ?_
                refine lv_iload hx hb dX7_known_118 (lv_at hl 1 rfl) ?_
                refine va_iald hx hb hK hP 3 2 rfl rfl (vp_in_nI (by omega) (by decide)) dX7_known_120 ?_
                have ho := hK4.2.2.2 j hj
                refine k_i (v := fN j) (by rw [nI_clamp (by omega)]) ?_
                refine lv_istore (lv' := [(4, .int (fN j)), (5, .int (nI tt)), (3, .int (nI hh)), (2, .int (nI v)), (0, .ref h0), (1, .int (nI n))]) hx hb dX7_known_121 hl (by decide) rfl (fun ls hl => ?_)
                refine lv_iinc (v := nI (tt + 1)) (lv' := [(5, .int (nI (tt + 1))), (4, .int (fN j)), (3, .int (nI hh)), (2, .int (nI v)), (0, .ref h0), (1, .int (nI n))]) hx hb dX7_known_123 hl (k := 1) rfl (nI_1 _) (by decide) rfl (fun ls hl => ?_)
                refine lv_goto (tgt := 86) hx hb dX7_known_126 (by decide) ?_
                apply ih (tt := tt + 1) (oo := fN j) <;> first | assumption | omega
              · refine lv_iload hx hb dX7_known_111 (lv_at hl 1 rfl) ?_
                exact W.iret (v := nI j) hx hb hr (fun t ht hW => ⟨⟨nI j, (N, ft, fF, fN, fB), rfl, ⟨hT, hK4⟩, by rw [ht]; exact hP, va_K.moved hW.alike hK, hD⟩, hS.F ht⟩) hS.2.2 dX7_known_113
    · refine lv_iconst (v := 0) hx hb dX7_known_35 (by decide) ?_
      exact W.iret (v := 0) hx hb hr (fun t ht hW => ⟨⟨0, (N, ft, fF, fN, fB), rfl, ⟨hT, hK4⟩, by rw [ht]; exact hP, va_K.moved hW.alike hK, hD⟩, hS.F ht⟩) hS.2.2 dX7_known_36

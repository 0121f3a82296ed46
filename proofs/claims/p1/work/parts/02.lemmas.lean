/-! Own rows: arrays that are made and put into a field, the object's fields known by a list of what matters -/
/-- what is known of an object's fields: how many, and some of them -/
def kJ (N : Nat) (L : List (Nat × Value)) (fs : List Value) : Prop := fs.length = N ∧ ∀ x ∈ L, fs[x.1]? = some x.2
theorem kJ_set {N : Nat} {L : List (Nat × Value)} {fs : List Value} (h : kJ N L fs) (k : Nat) (v : Value) (hk : (L.map Prod.fst).contains k = false) : kJ N L (fs.set k v) := by
  refine ⟨by rw [List.length_set]; exact h.1, fun x hx => ?_⟩
  have h1 : x.1 ≠ k := by
    intro e
    have : (L.map Prod.fst).contains k = true := by
      rw [List.contains_iff_mem]
      exact List.mem_map.mpr ⟨x, hx, e⟩
    rw [hk] at this
    cases this
  rw [List.getElem?_set_ne (Ne.symm h1)]
  exact h.2 x hx
theorem kJ_add {N : Nat} {L : List (Nat × Value)} {fs : List Value} (h : kJ N L fs) (k : Nat) (v : Value) (hk : (L.map Prod.fst).contains k = false) (hl : k < N) : kJ N ((k, v) :: L) (fs.set k v) := by
  have h2 := kJ_set h k v hk
  refine ⟨h2.1, fun x hx => ?_⟩
  rcases List.mem_cons.mp hx with e | hx
  · subst e
    show (fs.set k v)[k]? = some v
    rw [List.getElem?_set_self (by rw [h.1]; exact hl)]
  · exact h2.2 x hx
theorem kJ_up {N : Nat} {L : List (Nat × Value)} {fs : List Value} (h : kJ N L fs) (k : Nat) (v : Value) (L2 : List (Nat × Value)) (hL : ∀ x ∈ L2, x = (k, v) ∨ (x ∈ L ∧ x.1 ≠ k)) (hl : k < N) : kJ N L2 (fs.set k v) := by
  refine ⟨by rw [List.length_set]; exact h.1, fun x hx => ?_⟩
  rcases hL x hx with e | ⟨h1, h2⟩
  · subst e
    show (fs.set k v)[k]? = some v
    rw [List.getElem?_set_self (by rw [h.1]; exact hl)]
  · rw [List.getElem?_set_ne (Ne.symm h2)]
    exact h.2 x h1
theorem kJ_at {N : Nat} {L : List (Nat × Value)} {fs : List Value} (h : kJ N L fs) (i : Nat) {k : Nat} {v : Value} (hi : L[i]? = some (k, v)) : fs[k]? = some v := h.2 _ (List.mem_of_getElem? hi)
theorem kJ_sub {N : Nat} {L L2 : List (Nat × Value)} {fs : List Value} (h : kJ N L fs) (hs : ∀ x ∈ L2, x ∈ L) : kJ N L2 fs := ⟨h.1, fun x hx => h.2 x (hs x hx)⟩
section KA
variable {p : Program} {l : Launch} {e : Env} {R : Room} {s : State} {m : MethodId} {args : Array Value} {below : List Frame} {meth : Method} {c : Code} {H : Heap} {locs : List Loc} {cells slots : Nat} {Q : State → Prop}
variable {cc : ByteArray} {pc : Nat} {ls : Array Slot} {rest : List Value} {D : va_G} {cl : List vw_C} {A : Nat → Prop} {a : Nat} {tys : List (ClassId × FieldType)} {ws : va_W} {H0 : Heap}
/-- newarray, the array itself forgotten -/
theorem k_newa (hexec : p.tables.exec = Jvm.exec) (hb : c.code = cc) {atype : ArrayType} (harr : (Cond.arrayClass (newarray.typeOf atype)).before args s = true) (hP : va_P D cl ws H) (hD : va_D A ws) (hS : va_S A H0 H locs)
    {n : Int32} {N' : Nat} (hn : ¬ n < 0) (hN : n.toNatClampNeg = N') (hbytes : N' * componentBytes (newarray.typeOf atype) ≤ 536870912) (hcells : cells + 1 ≤ R.cells) (hslots : slots + N' ≤ R.slots) (hdg : decode cc pc = .ok (.newarray atype, 2))
    (kk : ∀ (q : Nat) (H1 : Heap), va_P D cl ws H1 → va_D A ws → va_S A H0 H1 locs → W p l e R s m args below meth c H1 locs (cells + 1) (slots + N') Q (F0 m (pc + 2) ls (.ref q :: rest))) : W p l e R s m args below meth c H locs cells slots Q (F0 m pc ls (.int n :: rest)) := by
  refine va_newaK hexec hb harr rfl hdg rfl hn hN hbytes hcells hslots rfl fun H1 cA e1 z1 o1 hAr hNm => ?_
  have hk : ∀ (k : Nat) (x : Nat × va_E), ws[k]? = some x → H1[x.1]? = H[x.1]? := fun k x hx => o1 x.1 ((hP k x hx).lt)
  exact kk H.size H1 (hP.kept hk) hD ⟨Nat.le_trans hS.1 (by omega), fun x h1 h2 => (o1 x (Nat.lt_of_lt_of_le h1 hS.1)).trans (hS.2.1 x h1 h2), hS.2.2⟩
/-- anewarray of arrays, the array itself forgotten -/
theorem k_newq (hexec : p.tables.exec = Jvm.exec) (hb : c.code = cc) {own : String} {index : Nat} {t : FieldType} (hown : s.vm.findClass own = some m.cls) (hclink : (Cond.classLink own index (FieldType.array t).toString).before args s = true) (hover : (Cond.arrayOver (.array t)).before args s = true) (hP : va_P D cl ws H) (hD : va_D A ws) (hS : va_S A H0 H locs)
    {n : Int32} {N' : Nat} (hn : ¬ n < 0) (hN : n.toNatClampNeg = N') (hbytes : N' * 4 ≤ 536870912) (hcells : cells + 1 ≤ R.cells) (hslots : slots + N' ≤ R.slots) (hdg : decode cc pc = .ok (.anewarray index, 3))
    (kk : ∀ (q : Nat) (H1 : Heap), va_P D cl ws H1 → va_D A ws → va_S A H0 H1 locs → W p l e R s m args below meth c H1 locs (cells + 1) (slots + N') Q (F0 m (pc + 3) ls (.ref q :: rest))) : W p l e R s m args below meth c H locs cells slots Q (F0 m pc ls (.int n :: rest)) := by
  subst hN
  refine W.anewA hexec hb hown hclink hover rfl hdg rfl hn hbytes hcells hslots fun cA kA comp f1 f2 f3 f4 => ?_
  generalize hH1 : H.push ({ cls := cA, slots := Array.replicate n.toNatClampNeg .null, vm := .none } : Cell) = H1
  have z1 : H1.size = H.size + 1 := by rw [← hH1, Array.size_push]
  have o1 : ∀ q : Nat, q < H.size → H1[q]? = H[q]? := fun q hq => by rw [← hH1, Array.getElem?_push, if_neg (Nat.ne_of_lt hq)]
  have hk : ∀ (k : Nat) (x : Nat × va_E), ws[k]? = some x → H1[x.1]? = H[x.1]? := fun k x hx => o1 x.1 ((hP k x hx).lt)
  exact kk H.size H1 (hP.kept hk) hD ⟨Nat.le_trans hS.1 (by omega), fun x h1 h2 => (o1 x (Nat.lt_of_lt_of_le h1 hS.1)).trans (hS.2.1 x h1 h2), hS.2.2⟩
/-- newarray; putfield of a final field of this constructor's object, the first of the world; the array is forgotten -/
theorem k_arrF {N0 : Nat} {L : List (Nat × Value)} {fs : List Value} {wr : va_W} {ci : Nat} {C : String} {T : u_T} {N index : Nat} {Ts : List Cond} (hts : ∀ w ∈ Ts, w.before args s = true) (hin : ∀ w ∈ u_ws C T N, w ∈ Ts) (ty0 : Nat → FieldType) (hty : ∀ k, k < N → parseFieldDescriptor (T k).2.2.1 = some (ty0 k)) (hnm : ∀ a, a < N → ∀ b, b < N → a ≠ b → (T a).2.1 ≠ (T b).2.1)
    (hexec : p.tables.exec = Jvm.exec) (hb : c.code = cc) (hown : s.vm.findClass C = some m.cls) (hin2 : meth.name = "<init>") (hK : va_K D cl tys s) (hc : cl[ci]? = some (C, T, N)) (hJ : kJ N0 L fs) (hP : va_P D cl ((a, .inr (ci, fs)) :: wr) H) (hD : va_D A ((a, .inr (ci, fs)) :: wr)) (hS : va_S A H0 H locs)
    {atype : ArrayType} (harr : (Cond.arrayClass (newarray.typeOf atype)).before args s = true) (k : Nat) (hk : k < N) (hkl : k < N0) (hkL : (L.map Prod.fst).contains k = false) (hlink : (Cond.fieldLink C index C (T k).2.1 (T k).2.2.1).before args s = true) (hfin : (T k).2.2.2 = true) (hdecl : (T k).1 = C) {ty : FieldType} (hd : parseFieldDescriptor (T k).2.2.1 = some (.array ty))
    {n : Int32} {N' : Nat} (hn : ¬ n < 0) (hN : n.toNatClampNeg = N') (hbytes : N' * componentBytes (newarray.typeOf atype) ≤ 536870912) (hcells : cells + 1 ≤ R.cells) (hslots : slots + N' ≤ R.slots) (hdg : decode cc pc = .ok (.newarray atype, 2)) (hdg2 : decode cc (pc + 2) = .ok (.putfield index, 3))
    (kk : ∀ (H1 : Heap) (locs1 : List Loc) (fs1 : List Value), kJ N0 L fs1 → va_P D cl ((a, .inr (ci, fs1)) :: wr) H1 → va_D A ((a, .inr (ci, fs1)) :: wr) → va_S A H0 H1 locs1 → W p l e R s m args below meth c H1 locs1 (cells + 1) (slots + N') Q (F0 m (pc + 2 + 3) ls rest)) : W p l e R s m args below meth c H locs cells slots Q (F0 m pc ls (.int n :: .ref a :: rest)) := by
  refine k_newa hexec hb harr hP hD hS hn hN hbytes hcells hslots hdg (fun q H1 hP hD hS => ?_)
  refine va_putF (D := D) (ci := ci) (v := .ref q) (ty := .array ty) (C := C) (T := T) (N := N) hexec hb hts hin ty0 hty hnm hown hK hP hD hS 0 rfl hc k hk hlink (fun _ h9 => by rw [hdecl] at h9; exact h9) hfin hin2 hdecl hd rfl rfl (by rw [hJ.1]; exact hkl) hdg2 (fun H2 locs2 hP hD hS => ?_)
  exact kk H2 locs2 (fs.set k (.ref q)) (kJ_set hJ k _ hkL) hP hD hS
/-- anewarray; putfield of a final field of this constructor's object, the first of the world; the array is forgotten -/
theorem k_arrQ {N0 : Nat} {L : List (Nat × Value)} {fs : List Value} {wr : va_W} {ci : Nat} {C : String} {T : u_T} {N index : Nat} {Ts : List Cond} (hts : ∀ w ∈ Ts, w.before args s = true) (hin : ∀ w ∈ u_ws C T N, w ∈ Ts) (ty0 : Nat → FieldType) (hty : ∀ k, k < N → parseFieldDescriptor (T k).2.2.1 = some (ty0 k)) (hnm : ∀ a, a < N → ∀ b, b < N → a ≠ b → (T a).2.1 ≠ (T b).2.1)
    (hexec : p.tables.exec = Jvm.exec) (hb : c.code = cc) (hown : s.vm.findClass C = some m.cls) (hin2 : meth.name = "<init>") (hK : va_K D cl tys s) (hc : cl[ci]? = some (C, T, N)) (hJ : kJ N0 L fs) (hP : va_P D cl ((a, .inr (ci, fs)) :: wr) H) (hD : va_D A ((a, .inr (ci, fs)) :: wr)) (hS : va_S A H0 H locs) 
    {et : FieldType} {ix : Nat} (hclink : (Cond.classLink C ix (FieldType.array et).toString).before args s = true) (hover : (Cond.arrayOver (.array et)).before args s = true) (k : Nat) (hk : k < N) (hkl : k < N0) (hkL : (L.map Prod.fst).contains k = false) (hlink : (Cond.fieldLink C index C (T k).2.1 (T k).2.2.1).before args s = true) (hfin : (T k).2.2.2 = true) (hdecl : (T k).1 = C) {ty : FieldType} (hd : parseFieldDescriptor (T k).2.2.1 = some (.array ty))
    {n : Int32} {N' : Nat} (hn : ¬ n < 0) (hN : n.toNatClampNeg = N') (hbytes : N' * 4 ≤ 536870912) (hcells : cells + 1 ≤ R.cells) (hslots : slots + N' ≤ R.slots) (hdg : decode cc pc = .ok (.anewarray ix, 3)) (hdg2 : decode cc (pc + 3) = .ok (.putfield index, 3))
    (kk : ∀ (H1 : Heap) (locs1 : List Loc) (fs1 : List Value), kJ N0 L fs1 → va_P D cl ((a, .inr (ci, fs1)) :: wr) H1 → va_D A ((a, .inr (ci, fs1)) :: wr) → va_S A H0 H1 locs1 → W p l e R s m args below meth c H1 locs1 (cells + 1) (slots + N') Q (F0 m (pc + 3 + 3) ls rest)) : W p l e R s m args below meth c H locs cells slots Q (F0 m pc ls (.int n :: .ref a :: rest)) := by
  refine k_newq hexec hb hown hclink hover hP hD hS hn hN hbytes hcells hslots hdg (fun q H1 hP hD hS => ?_)
  refine va_putF (D := D) (ci := ci) (v := .ref q) (ty := .array ty) (C := C) (T := T) (N := N) hexec hb hts hin ty0 hty hnm hown hK hP hD hS 0 rfl hc k hk hlink (fun _ h9 => by rw [hdecl] at h9; exact h9) hfin hin2 hdecl hd rfl rfl (by rw [hJ.1]; exact hkl) hdg2 (fun H2 locs2 hP hD hS => ?_)
  exact kk H2 locs2 (fs.set k (.ref q)) (kJ_set hJ k _ hkL) hP hD hS
/-- newarray; putfield of a field of this object, the first of the world; the array is forgotten -/
theorem k_arrP {N0 : Nat} {L : List (Nat × Value)} {fs : List Value} {wr : va_W} {ci : Nat} {C : String} {T : u_T} {N index : Nat} {Ts : List Cond} (hts : ∀ w ∈ Ts, w.before args s = true) (hin : ∀ w ∈ u_ws C T N, w ∈ Ts) (ty0 : Nat → FieldType) (hty : ∀ k, k < N → parseFieldDescriptor (T k).2.2.1 = some (ty0 k)) (hnm : ∀ a, a < N → ∀ b, b < N → a ≠ b → (T a).2.1 ≠ (T b).2.1)
    (hexec : p.tables.exec = Jvm.exec) (hb : c.code = cc) (hown : s.vm.findClass C = some m.cls) (hK : va_K D cl tys s) (hc : cl[ci]? = some (C, T, N)) (hJ : kJ N0 L fs) (hP : va_P D cl ((a, .inr (ci, fs)) :: wr) H) (hD : va_D A ((a, .inr (ci, fs)) :: wr)) (hS : va_S A H0 H locs)
    {atype : ArrayType} (harr : (Cond.arrayClass (newarray.typeOf atype)).before args s = true) (k : Nat) (hk : k < N) (hkl : k < N0) (hkL : (L.map Prod.fst).contains k = false) (hlink : (Cond.fieldLink C index C (T k).2.1 (T k).2.2.1).before args s = true) (hfin : (T k).2.2.2 = false) (hdecl : (T k).1 = C) {ty : FieldType} (hd : parseFieldDescriptor (T k).2.2.1 = some (.array ty))
    {n : Int32} {N' : Nat} (hn : ¬ n < 0) (hN : n.toNatClampNeg = N') (hbytes : N' * componentBytes (newarray.typeOf atype) ≤ 536870912) (hcells : cells + 1 ≤ R.cells) (hslots : slots + N' ≤ R.slots) (hdg : decode cc pc = .ok (.newarray atype, 2)) (hdg2 : decode cc (pc + 2) = .ok (.putfield index, 3))
    (kk : ∀ (H1 : Heap) (locs1 : List Loc) (fs1 : List Value), kJ N0 L fs1 → va_P D cl ((a, .inr (ci, fs1)) :: wr) H1 → va_D A ((a, .inr (ci, fs1)) :: wr) → va_S A H0 H1 locs1 → W p l e R s m args below meth c H1 locs1 (cells + 1) (slots + N') Q (F0 m (pc + 2 + 3) ls rest)) : W p l e R s m args below meth c H locs cells slots Q (F0 m pc ls (.int n :: .ref a :: rest)) := by
  refine k_newa hexec hb harr hP hD hS hn hN hbytes hcells hslots hdg (fun q H1 hP hD hS => ?_)
  refine va_put (D := D) (ci := ci) (v := .ref q) (ty := .array ty) (C := C) (T := T) (N := N) hexec hb hts hin ty0 hty hnm hown hK hP hD hS 0 rfl hc k hk hlink (fun _ h9 => by rw [hdecl] at h9; exact h9) hfin hd rfl rfl (by rw [hJ.1]; exact hkl) hdg2 (fun H2 locs2 hP hD hS => ?_)
  exact kk H2 locs2 (fs.set k (.ref q)) (kJ_set hJ k _ hkL) hP hD hS
/-- putfield of a field that isn't final, of the first object of the world -/
theorem k_put {N0 : Nat} {L : List (Nat × Value)} (L2 : List (Nat × Value)) {fs : List Value} {wr : va_W} {ci : Nat} {own C : String} {T : u_T} {N index : Nat} {Ts : List Cond} (hts : ∀ w ∈ Ts, w.before args s = true) (hin : ∀ w ∈ u_ws C T N, w ∈ Ts) (ty0 : Nat → FieldType) (hty : ∀ k, k < N → parseFieldDescriptor (T k).2.2.1 = some (ty0 k)) (hnm : ∀ a, a < N → ∀ b, b < N → a ≠ b → (T a).2.1 ≠ (T b).2.1)
    (hexec : p.tables.exec = Jvm.exec) (hb : c.code = cc) (hown : s.vm.findClass own = some m.cls) (hK : va_K D cl tys s) (hc : cl[ci]? = some (C, T, N)) (hJ : kJ N0 L fs) (hP : va_P D cl ((a, .inr (ci, fs)) :: wr) H) (hD : va_D A ((a, .inr (ci, fs)) :: wr)) (hS : va_S A H0 H locs)
    (k : Nat) (hk : k < N) (hkl : k < N0) (hlink : (Cond.fieldLink own index (T k).1 (T k).2.1 (T k).2.2.1).before args s = true) (hfin : (T k).2.2.2 = false) {ty : FieldType} (hd : parseFieldDescriptor (T k).2.2.1 = some ty) {v : Value} (hn : narrow ty v = v) (hfit : fits ty v = true) (hdg2 : decode cc pc = .ok (.putfield index, 3)) (hJ2 : ∀ f, kJ N0 L f → kJ N0 L2 (f.set k v))
    (kk : ∀ (H1 : Heap) (locs1 : List Loc) (fs1 : List Value), kJ N0 L2 fs1 → va_P D cl ((a, .inr (ci, fs1)) :: wr) H1 → va_D A ((a, .inr (ci, fs1)) :: wr) → va_S A H0 H1 locs1 → W p l e R s m args below meth c H1 locs1 cells slots Q (F0 m (pc + 3) ls rest)) : W p l e R s m args below meth c H locs cells slots Q (F0 m pc ls (v :: .ref a :: rest)) := by
  refine va_put (D := D) (ci := ci) (v := v) (ty := ty) (C := C) (T := T) (N := N) hexec hb hts hin ty0 hty hnm hown hK hP hD hS 0 rfl hc k hk hlink (fun _ h9 => h9) hfin hd hn hfit (by rw [hJ.1]; exact hkl) hdg2 (fun H2 locs2 hP hD hS => ?_)
  exact kk H2 locs2 (fs.set k v) (hJ2 fs hJ) hP hD hS
/-- the same of a final field, in the constructor -/
theorem k_putF {N0 : Nat} {L : List (Nat × Value)} (L2 : List (Nat × Value)) {fs : List Value} {wr : va_W} {ci : Nat} {C : String} {T : u_T} {N index : Nat} {Ts : List Cond} (hts : ∀ w ∈ Ts, w.before args s = true) (hin : ∀ w ∈ u_ws C T N, w ∈ Ts) (ty0 : Nat → FieldType) (hty : ∀ k, k < N → parseFieldDescriptor (T k).2.2.1 = some (ty0 k)) (hnm : ∀ a, a < N → ∀ b, b < N → a ≠ b → (T a).2.1 ≠ (T b).2.1)
    (hexec : p.tables.exec = Jvm.exec) (hb : c.code = cc) (hown : s.vm.findClass C = some m.cls) (hin2 : meth.name = "<init>") (hK : va_K D cl tys s) (hc : cl[ci]? = some (C, T, N)) (hJ : kJ N0 L fs) (hP : va_P D cl ((a, .inr (ci, fs)) :: wr) H) (hD : va_D A ((a, .inr (ci, fs)) :: wr)) (hS : va_S A H0 H locs)
    (k : Nat) (hk : k < N) (hkl : k < N0) (hdecl : (T k).1 = C) (hlink : (Cond.fieldLink C index C (T k).2.1 (T k).2.2.1).before args s = true) (hfin : (T k).2.2.2 = true) {ty : FieldType} (hd : parseFieldDescriptor (T k).2.2.1 = some ty) {v : Value} (hn : narrow ty v = v) (hfit : fits ty v = true) (hdg2 : decode cc pc = .ok (.putfield index, 3)) (hJ2 : ∀ f, kJ N0 L f → kJ N0 L2 (f.set k v))
    (kk : ∀ (H1 : Heap) (locs1 : List Loc) (fs1 : List Value), kJ N0 L2 fs1 → va_P D cl ((a, .inr (ci, fs1)) :: wr) H1 → va_D A ((a, .inr (ci, fs1)) :: wr) → va_S A H0 H1 locs1 → W p l e R s m args below meth c H1 locs1 cells slots Q (F0 m (pc + 3) ls rest)) : W p l e R s m args below meth c H locs cells slots Q (F0 m pc ls (v :: .ref a :: rest)) := by
  refine va_putF (D := D) (ci := ci) (v := v) (ty := ty) (C := C) (T := T) (N := N) hexec hb hts hin ty0 hty hnm hown hK hP hD hS 0 rfl hc k hk hlink (fun _ h9 => by rw [hdecl] at h9; exact h9) hfin hin2 hdecl hd hn hfit (by rw [hJ.1]; exact hkl) hdg2 (fun H2 locs2 hP hD hS => ?_)
  exact kk H2 locs2 (fs.set k v) (hJ2 fs hJ) hP hD hS
/-- aastore of a text constant into the first array of the world; which one is forgotten -/
theorem k_aast {wr : va_W} (hexec : p.tables.exec = Jvm.exec) (hb : c.code = cc) (hK : va_K D cl tys s) {cA : ClassId} {n v : Nat} {f : Nat → Option Nat} (hP : va_P D cl ((a, .inl (cA, n, .inr (.inr (.inr (.inr f))))) :: wr) H) (hD : va_D A ((a, .inl (cA, n, .inr (.inr (.inr (.inr f))))) :: wr)) (hS : va_S A H0 H locs) (t0 : Nat) {E : String} (ht : tys[t0]? = some (cA, .object E)) (hr : va_Any E s H v) {i : Int32} (hin : vp_in i n) (hdg : decode cc pc = .ok (.aastore, 1))
    (kk : ∀ (H1 : Heap) (locs1 : List Loc) (f1 : Nat → Option Nat), va_P D cl ((a, .inl (cA, n, .inr (.inr (.inr (.inr f1))))) :: wr) H1 → va_D A ((a, .inl (cA, n, .inr (.inr (.inr (.inr f1))))) :: wr) → va_S A H0 H1 locs1 → W p l e R s m args below meth c H1 locs1 cells slots Q (F0 m (pc + 1) ls rest)) : W p l e R s m args below meth c H locs cells slots Q (F0 m pc ls (.ref v :: .int i :: .ref a :: rest)) :=
  va_astqM hexec hb hK hP hD hS 0 t0 rfl ht hr hin hdg (fun H1 locs1 h1 h2 h3 => kk H1 locs1 _ h1 h2 h3)
end KA
/-- the two statics of Throwable: null or some reference, their cells not in A -/
def tZ (A : Nat → Prop) (U : State) (H : Heap) : Prop := va_Zq "java/lang/Throwable" "UNASSIGNED_STACK" "[Ljava/lang/StackTraceElement;" A U H ∧ va_Zq "java/lang/Throwable" "SUPPRESSED_SENTINEL" "Ljava/util/List;" A U H
theorem tZ.moved {A : Nat → Prop} {u U : State} {H : Heap} (hvm : u.vm.Alike U.vm) (h : tZ A u H) : tZ A U H := ⟨va_Zq.moved hvm h.1, va_Zq.moved hvm h.2⟩
theorem tZ.kept {A : Nat → Prop} {U : State} {H H1 : Heap} (h : tZ A U H) (hq : ∀ a : Nat, a < H.size → ¬ A a → H1[a]? = H[a]?) : tZ A U H1 := ⟨va_Zq.kept h.1 hq, va_Zq.kept h.2 hq⟩
theorem tZ.narrow {A B : Nat → Prop} {U : State} {H : Heap} (h : tZ A U H) (hAB : ∀ q, B q → A q) : tZ B U H := ⟨va_Zq.narrow h.1 hAB, va_Zq.narrow h.2 hAB⟩
/-- a static that is null or a reference: its value, fit for a field of objects or arrays -/
theorem zq_val {C n d : String} {A : Nat → Prop} {U : State} {H : Heap} (h : va_Zq C n d A U H) : ∃ v : Value, va_Z C n d v A U H ∧ (∀ x, narrow (.object x) v = v ∧ fits (.object x) v = true) ∧ (∀ x, narrow (.array x) v = v ∧ fits (.array x) v = true) := by
  rcases h with h | ⟨t, h⟩
  · exact ⟨.null, h, fun _ => ⟨rfl, rfl⟩, fun _ => ⟨rfl, rfl⟩⟩
  · exact ⟨.ref t, h, fun _ => ⟨rfl, rfl⟩, fun _ => ⟨rfl, rfl⟩⟩
/-- a text constant: where it lies, a String, not in A -/
def sT (own : String) (A : Nat → Prop) (x : Nat × String) (U : State) (q : Nat) : Prop := vk_R own x.1 x.2 q U ∧ va_Any "java/lang/String" U U.heap q ∧ ¬ A q
theorem sT.any {own : String} {A : Nat → Prop} {x : Nat × String} {s : State} {q : Nat} {H : Heap} {locs : List Loc} (h : sT own A x s q) (hS : va_S A s.heap H locs) : va_Any "java/lang/String" s H q := by
  obtain ⟨-, ⟨cell, h1, h2, h3, h4⟩, hn⟩ := h
  exact ⟨cell, by rw [hS.2.1 q (Array.getElem?_eq_some_iff.mp h1).1 hn]; exact h1, h2, h3, h4⟩
theorem sT.moved {own : String} {A B : Nat → Prop} {x : Nat × String} {u U : State} {q : Nat} (h : sT own A x u q) (hW : u.WarmedH U.vm) (hq : ∀ a : Nat, a < u.heap.size → ¬ A a → U.heap[a]? = u.heap[a]?) (hB : ∀ q, B q → A q) : sT own B x U q := by
  obtain ⟨h0, ⟨cell, h1, h2, ⟨kC, h3⟩, h4⟩, hn⟩ := h
  refine ⟨vk_R.warm hW h0, ⟨cell, by rw [hq q (Array.getElem?_eq_some_iff.mp h1).1 hn]; exact h1, h2, ?_, ?_⟩, fun z => hn (hB _ z)⟩
  · obtain ⟨k', hk', -⟩ := hW.alike.2.2 _ _ h3
    exact ⟨k', hk'⟩
  · intro comp hc
    rw [hW.alike.assignable]
    exact h4 comp (by rw [← hW.alike.findClass]; exact hc)
/-- arrays over a type are there -/
def aO (ty : FieldType) (U : State) : Prop := (Cond.arrayOver ty).before #[] U = true
theorem aO.moved {ty : FieldType} {u U : State} (hvm : u.vm.Alike U.vm) (h : aO ty u) : aO ty U := by
  have h2 : (Cond.arrayOver ty).before #[] (u.setVm U.vm) = true := by rw [Cond.arrayOver_setVmC hvm]; exact h
  exact h2
theorem aO.use {ty : FieldType} {U : State} {A : Array Value} (h : aO ty U) : (Cond.arrayOver ty).before A U = true := h
theorem aO.of {ty : FieldType} {U : State} {A : Array Value} (h : (Cond.arrayOver ty).before A U = true) : aO ty U := h

/-! What this claim's contracts are made of: 0 and 1 for a condition, the kinds of array, what the tables must say (wCx), the static fields that a throw and a list read (wHf); a call that changes nothing; new arrays at kinds that are known. -/
def bi (P : Prop) [Decidable P] : Int32 := if P then 1 else 0
theorem bi_t {P : Prop} [Decidable P] (h : P) : (1 : Int32) = bi P := (if_pos h).symm
theorem bi_f {P : Prop} [Decidable P] (h : ¬ P) : (0 : Int32) = bi P := (if_neg h).symm
theorem bi_n {P : Prop} [Decidable P] {r : Int32} (e : r = bi P) (h : ¬ r = 0) : P := by
  by_cases q : P
  · exact q
  · exact absurd (e.trans (if_neg q)) h
theorem bi_z {P : Prop} [Decidable P] {r : Int32} (e : r = bi P) (h : r = 0) : ¬ P := fun q => absurd ((e.trans (if_pos q)).symm.trans h) (by decide)
theorem bi_nar {P : Prop} [Decidable P] {r : Int32} (e : r = bi P) : narrow .boolean (.int r) = .int r := by
  subst e
  unfold bi
  split <;> rfl
theorem i32_lt {x y : Int32} (h : x < y) : x.toInt < y.toInt := Int32.lt_iff_toInt_lt.mp h
theorem i32_nlt {x y : Int32} (h : ¬ x < y) : y.toInt ≤ x.toInt := Int.not_lt.mp (fun q => h (Int32.lt_iff_toInt_lt.mpr q))
theorem i32_le {x y : Int32} (h : x ≤ y) : x.toInt ≤ y.toInt := Int32.le_iff_toInt_le.mp h
theorem i32_nle {x y : Int32} (h : ¬ x ≤ y) : y.toInt < x.toInt := Int.not_le.mp (fun q => h (Int32.le_iff_toInt_le.mpr q))
/-- an int with bounds is some nI -/
theorem nI_bd {x : Int32} {n : Nat} (h0 : 0 ≤ x.toInt) (h1 : x.toInt < n) (hn : n < 2 ^ 31) : ∃ j : Nat, j < n ∧ x = nI j := vp_in_of (vp_in_iff.mpr ⟨h0, h1⟩) hn
-- the kinds of array
abbrev TY (k : Nat → ClassId) : List (ClassId × FieldType) := [(k 0, .boolean), (k 1, .long), (k 2, .int), (k 3, .object "Triplegarth$Graph"), (k 4, .object "java/lang/Object"), (k 5, .array .boolean), (k 6, .array .int), (k 7, .array .long), (k 8, .double)]
theorem ra_one {U : State} {c c' : ClassId} {ty : FieldType} (h : va_RA U c ty) (h' : va_RA U c' ty) : c = c' := by
  cases ty with
  | object C =>
    obtain ⟨_, _, _, _, _, h4⟩ := h
    obtain ⟨_, _, _, _, _, h5⟩ := h'
    exact Option.some.inj (h4.symm.trans h5)
  | _ => exact Option.some.inj ((show U.vm.findClass _ = some c from h).symm.trans (show U.vm.findClass _ = some c' from h'))
theorem wK_same {D : va_G} {cl : List vw_C} {T : List (ClassId × FieldType)} {cA c0 : ClassId} {ty : FieldType} {s : State} (hK : va_K D cl (T ++ [(cA, ty)]) s) (i : Nat) (hi : T[i]? = some (c0, ty)) : cA = c0 := by
  have h1 := hK.2 T.length (cA, ty) (by rw [List.getElem?_append_right (Nat.le_refl _), Nat.sub_self]; rfl)
  have h2 := hK.2 i (c0, ty) (by rw [List.getElem?_append_left (List.getElem?_eq_some_iff.mp hi).1]; exact hi)
  exact ra_one h1.2 h2.2
/-- the word that the printed row of new T[n][m] names -/
def va_AOA (t : FieldType) (U : State) : Prop := (Cond.arrayOver (.array t)).before #[] U = true
theorem wAA_mv {t : FieldType} {u U : State} (hvm : u.vm.Alike U.vm) (h : va_AOA t u) : va_AOA t U := by
  obtain ⟨comp, c, k, h1, h2, h3, h4, h5⟩ := arrayOverA_spec (show (Cond.arrayOver (.array t)).holds #[] u none u [] = true from h)
  obtain ⟨k', hk', he⟩ := hvm.2.2 _ _ h3
  have f1 : U.vm.findClass (FieldType.array t).toString = some comp := by rw [hvm.findClass]; exact h1
  have f2 : U.vm.findClass ("[" ++ (FieldType.array t).toString) = some c := by rw [hvm.findClass]; exact h5
  have hi : (U.vm.classes.findIdx? fun (x : Class) => match x.kind with | .array component _ => component == comp | _ => false) = some c := by
    have h9 := va_idx_bare U.vm comp
    have h8 := va_idx_bare u.vm comp
    have e1 : U.vm.bare = u.vm.bare := by first | exact hvm.bare_eq | exact hvm.bare_eq.symm
    rw [e1] at h9
    exact h9.symm.trans (h8.trans h2)
  have hk2 : k'.kind = .array comp (.array t) := by rw [he]; exact h4
  show (Cond.arrayOver (.array t)).before #[] U = true
  unfold Cond.before Cond.holds
  simp only [Cond.value]
  rw [f1, Option.bind_some]
  refine (congrArg (fun o : Option Nat => (o.bind (fun c => (U.vm.classes[c]?).map fun (k : Class) => match k.kind with | .array _ ty => decide (ty = FieldType.array t) && decide (U.vm.findClass ("[" ++ (FieldType.array t).toString) = some c) | _ => false) == some true)) hi).trans ?_
  simp [hk', hk2, f2]
-- what the tables must say beside a method's own words
def wNest (U : State) : Prop := va_Nw (.methodLinkNest RX11 49 yX1_init RX11) U ∧ va_Nw (.methodLinkNest RX1 17 yX5_init RX11) U ∧ va_Nw (.methodLinkNest RX1 33 yX11_isBelow RX11) U ∧ va_Nw (.methodLinkNest RX5 28 yX11_isBelow RX11) U ∧ va_Nw (.methodLinkNest RX4 3 yX6_init RX11) U ∧ va_Nw (.methodLinkNest RX3 3 yX6_init RX11) U
def wOver (U : State) : Prop := va_AO "Triplegarth$Graph" U ∧ va_AO "java/lang/Object" U ∧ va_AOA .boolean U ∧ va_AOA .int U ∧ va_AOA .long U
def wCast (U : State) : Prop := va_Nw (.castable RX8 "java/lang/Object") U ∧ va_Nw (.castable RX4 "java/lang/Object") U ∧ va_Nw (.castable RX3 "java/lang/Object") U ∧ va_Nw (.castable RX9 "java/lang/Object") U
def wThr (U : State) : Prop := (va_Nw (.declares (Bundle.init0 "java/lang/RuntimeException")) U ∧ va_Nw (.declares (Bundle.init0 "java/lang/Exception")) U ∧ va_Nw (.declares (Bundle.init0 "java/lang/Throwable")) U) ∧ va_Nw (.castable "java/lang/IllegalArgumentException" "java/lang/IllegalArgumentException") U ∧ va_Nw (.castable "java/lang/IllegalStateException" "java/lang/IllegalStateException") U ∧ va_Nw (.castable "java/util/NoSuchElementException" "java/util/NoSuchElementException") U ∧ va_Nw (.castable "java/lang/IndexOutOfBoundsException" "java/lang/IndexOutOfBoundsException") U ∧ va_Nw (.castable "java/lang/ArithmeticException" "java/lang/ArithmeticException") U
def wCx (D : va_G) (k : Nat → ClassId) (U : State) : Prop := va_K D vwCl (TY k) U ∧ wNest U ∧ wOver U ∧ wCast U ∧ wThr U
theorem wCx.mv {D : va_G} {k : Nat → ClassId} {u U : State} (hW : u.WarmedH U.vm) (h : wCx D k u) : wCx D k U := by
  obtain ⟨h1, ⟨n1, n2, n3, n4, n5, n6⟩, ⟨o1, o2, o3, o4, o5⟩, ⟨c1, c2, c3, c4⟩, ⟨d1, d2, d3⟩, t1, t2, t3, t4, t5⟩ := h
  exact ⟨va_K.moved hW.alike h1, ⟨n1.warmM hW, n2.warmM hW, n3.warmM hW, n4.warmM hW, n5.warmM hW, n6.warmM hW⟩, ⟨va_AO.moved hW.alike o1, va_AO.moved hW.alike o2, wAA_mv hW.alike o3, wAA_mv hW.alike o4, wAA_mv hW.alike o5⟩, ⟨c1.warmC hW, c2.warmC hW, c3.warmC hW, c4.warmC hW⟩, ⟨d1.warmD hW, d2.warmD hW, d3.warmD hW⟩, t1.warmC hW, t2.warmC hW, t3.warmC hW, t4.warmC hW, t5.warmC hW⟩
theorem wCx.fb {D : va_G} {k : Nat → ClassId} {U : State} {g : JFrame} {mk : MethodId} {a : Array Value} (h : wCx D k U) : wCx D k (U.calling g mk a) := wCx.mv (u := U) (U := U.calling g mk a) (State.WarmedH.refl U) h
-- the static fields that a throw and a list read
def wHf (e0 : Nat) (A : Nat → Prop) (U : State) (H : Heap) : Prop := vx_Zq Bundle.tN "UNASSIGNED_STACK" Bundle.steD A U H ∧ vx_Zq Bundle.tN "SUPPRESSED_SENTINEL" Bundle.listD A U H ∧ va_Z "java/util/ArrayList" "DEFAULTCAPACITY_EMPTY_ELEMENTDATA" "[Ljava/lang/Object;" (.ref e0) A U H ∧ va_T (.object "java/lang/Object") e0 0 (fun _ => .null) A U H
theorem wHf.go {e0 : Nat} {A A' : Nat → Prop} {u U : State} {H H1 : Heap} (hvm : u.vm.Alike U.vm) (h : wHf e0 A u H) (hq : ∀ a : Nat, a < H.size → ¬ A a → H1[a]? = H[a]?) (hn : ∀ q, A' q → A q) : wHf e0 A' U H1 := by
  obtain ⟨h1, h2, h3, h4⟩ := h
  exact ⟨((vx_Zq.moved hvm h1).kept hq).narrow hn, ((vx_Zq.moved hvm h2).kept hq).narrow hn, ((va_Z.moved hvm h3).kept hq).narrow hn, ((va_T.moved hvm h4).kept hq).narrow hn⟩
-- what contracts begin with
def pPc (D : va_G) (k : Nat → ClassId) (As : List Value) (h0 : Heap) : Array Value → State → Prop := va_Pc As (fun U => U.heap = h0 ∧ wCx D k U)
def tPc (D : va_G) (k : Nat → ClassId) (e0 : Nat) (As : List Value) (h0 : Heap) : Array Value → State → Prop := va_Pc As (fun U => U.heap = h0 ∧ wCx D k U ∧ wHf e0 (fun q => h0.size ≤ q) U h0)
def mPc (D : va_G) (k : Nat → ClassId) (e0 sz : Nat) (As : List Value) (ws : va_W) : Array Value → State → Prop := va_Pc As (fun U => U.heap.size = sz ∧ va_P D vwCl ws U.heap ∧ wCx D k U ∧ va_D (fun _ => True) ws ∧ wHf e0 (va_A ws sz) U U.heap)
theorem pPc_fb {D : va_G} {k : Nat → ClassId} {As : List Value} {h0 : Heap} : FrameBlind (pPc D k As h0) := fun _ _ _ _ q => ⟨q.1, q.2.1, q.2.2.fb⟩
theorem wHf.fb {e0 : Nat} {A : Nat → Prop} {U : State} {H : Heap} {g : JFrame} {mk : MethodId} {a : Array Value} (h : wHf e0 A U H) : wHf e0 A (U.calling g mk a) H := wHf.go (u := U) (U := U.calling g mk a) (Vm.Alike.refl U.vm) h (fun _ _ _ => rfl) (fun _ z => z)
theorem tPc_fb {D : va_G} {k : Nat → ClassId} {e0 : Nat} {As : List Value} {h0 : Heap} : FrameBlind (tPc D k e0 As h0) := fun _ _ _ _ q => ⟨q.1, q.2.1, q.2.2.1.fb, q.2.2.2.fb⟩
theorem mPc_fb {D : va_G} {k : Nat → ClassId} {e0 sz : Nat} {As : List Value} {ws : va_W} : FrameBlind (mPc D k e0 sz As ws) := fun _ _ _ _ q => ⟨q.1, q.2.1, q.2.2.1, q.2.2.2.1.fb, q.2.2.2.2.1, q.2.2.2.2.2.fb⟩
section BASE
variable {p : Program} {l : Launch} {e : Env} {R : Room} {s : State} {m : MethodId} {args : Array Value} {below : List Frame} {meth : Method} {c : Code} {H : Heap} {locs : List Loc} {cells slots : Nat} {Q : State → Prop}
variable {cc : ByteArray} {pc : Nat} {ls : Array Slot} {rest st0 : List Value} {D : va_G} {A A0 : Nat → Prop} {k : Nat → ClassId} {ws : va_W} {H0 : Heap} {a : Array Value} {As : List Value} {e0 : Nat} {mc ms : Nat}
theorem pPc_go (hC : wCx D k s) : ∀ U : State, U.heap = H → s.WarmedH U.vm → pPc D k As H As.toArray U := fun _ hU hW => ⟨rfl, hU, hC.mv hW⟩
theorem tPc_go (hC : wCx D k s) (hHf : wHf e0 A s s.heap) (hS : va_S A s.heap H locs) (hA : ∀ q, s.heap.size ≤ q → A q) : ∀ U : State, U.heap = H → s.WarmedH U.vm → tPc D k e0 As H As.toArray U := fun _ hU hW => ⟨rfl, hU, hC.mv hW, hHf.go hW.alike hS.2.1 (fun q h => hA q (Nat.le_trans hS.1 h))⟩
theorem mPc_go (hC : wCx D k s) (hHf : wHf e0 A s s.heap) (hS : va_S A s.heap H locs) (hP : va_P D vwCl ws H) (hD : va_D A ws) (hF : ∀ q, va_A ws H.size q → A q) : ∀ U : State, U.heap = H → s.WarmedH U.vm → mPc D k e0 H.size As ws As.toArray U := fun U hU hW => ⟨rfl, by rw [hU], by rw [hU]; exact hP, hC.mv hW, hD.weaken (fun _ _ _ _ => trivial), by rw [hU]; exact hHf.go hW.alike hS.2.1 hF⟩
theorem w_entry {vs : List Value} {n : Nat} (h : (lg_sl vs).length ≤ n) (kk : ∀ ls : Array Slot, lv_has ls n (lv_args 0 vs) → W p l e R s m args below meth c H locs cells slots Q (F0 m 0 ls [])) : W p l e R s m args below meth c H locs cells slots Q (entryFrame m vs.toArray n) := by
  rw [lg_entry_eq]
  exact kk _ (lv_entry vs h)
theorem w_top {x y : Int32} (he : x = y) (kk : W p l e R s m args below meth c H locs cells slots Q (F0 m pc ls (.int y :: rest))) : W p l e R s m args below meth c H locs cells slots Q (F0 m pc ls (.int x :: rest)) := by
  subst he
  exact kk
/-- a call that changes nothing -/
theorem pz_i {post : Int32 → Prop} (hr : va_Run p l e R s m args below meth c H locs cells slots 0 0 (F0 m pc ls st0) rest (va_Qi (fun r (_ : Unit) => post r) (fun _ t => t.heap = H) (fun _ => False) a) (fun _ => False)) (hS : va_S A0 H0 H locs)
    (kk : ∀ (r : Int32) (locs1 : List Loc), post r → va_S A0 H0 H locs1 → W p l e R s m args below meth c H locs1 cells slots Q (F0 m (pc + 3) ls (.int r :: rest))) : W p l e R s m args below meth c H locs cells slots Q (F0 m pc ls st0) :=
  va_calli hr hS (fun _ _ h => h.elim) (fun _ h => h.elim) (fun r u t H1 locs1 ht _ hw hB _ _ hS1 => by
    have e9 : H1 = H := ht.symm.trans hB
    subst e9
    exact kk r locs1 hw hS1)
theorem pz_l {post : Int64 → Prop} (hr : va_Run p l e R s m args below meth c H locs cells slots 0 0 (F0 m pc ls st0) rest (va_Ql (fun r (_ : Unit) => post r) (fun _ t => t.heap = H) (fun _ => False) a) (fun _ => False)) (hS : va_S A0 H0 H locs)
    (kk : ∀ (r : Int64) (locs1 : List Loc), post r → va_S A0 H0 H locs1 → W p l e R s m args below meth c H locs1 cells slots Q (F0 m (pc + 3) ls (.long r :: rest))) : W p l e R s m args below meth c H locs cells slots Q (F0 m pc ls st0) :=
  va_calll hr hS (fun _ _ h => h.elim) (fun _ h => h.elim) (fun r u t H1 locs1 ht _ hw hB _ _ hS1 => by
    have e9 : H1 = H := ht.symm.trans hB
    subst e9
    exact kk r locs1 hw hS1)
theorem pz_v (hr : va_Run p l e R s m args below meth c H locs cells slots 0 0 (F0 m pc ls st0) rest (va_Qv (fun (_ : Unit) => True) (fun _ t => t.heap = H) (fun _ => False) a) (fun _ => False)) (hS : va_S A0 H0 H locs)
    (kk : ∀ (locs1 : List Loc), va_S A0 H0 H locs1 → W p l e R s m args below meth c H locs1 cells slots Q (F0 m (pc + 3) ls rest)) : W p l e R s m args below meth c H locs cells slots Q (F0 m pc ls st0) :=
  va_callv hr hS (fun _ _ h => h.elim) (fun _ h => h.elim) (fun u t H1 locs1 ht _ hw hB _ _ hS1 => by
    have e9 : H1 = H := ht.symm.trans hB
    subst e9
    exact kk locs1 hS1)
/-- new T[n] of a kind that is known -/
theorem w_newa (hexec : p.tables.exec = Jvm.exec) (hb : c.code = cc) {atype : ArrayType} (harr : (Cond.arrayClass (newarray.typeOf atype)).before args s = true) {ty : FieldType} (hty : newarray.typeOf atype = ty) (i : Nat) {c0 : ClassId} (hi : (TY k)[i]? = some (c0, ty)) (hK : va_K D vwCl (TY k) s) (hP : va_P D vwCl ws H) (hD : va_D A ws) (hS : va_S A H0 H locs) (hA : ∀ q, H0.size ≤ q → A q) {n : Int32} {N' : Nat} {a0 : vp_A} (ha : ∀ cA : ClassId, vp_cell cA a0 = arrV cA N' (fun _ => defaultValue ty)) (hn : ¬ n < 0) (hN : n.toNatClampNeg = N') (hbytes : N' * componentBytes ty ≤ 536870912) (hcells : cells + 1 ≤ R.cells) (hslots : slots + N' ≤ R.slots) (hdg : decode cc pc = .ok (.newarray atype, 2))
    (kk : ∀ (q : Nat) (H1 : Heap), va_P D vwCl (ws ++ [(q, .inl (c0, a0))]) H1 → va_D A (ws ++ [(q, .inl (c0, a0))]) → va_S A H0 H1 locs → W p l e R s m args below meth c H1 locs (cells + 1) (slots + N') Q (F0 m (pc + 2) ls (.ref q :: rest))) : W p l e R s m args below meth c H locs cells slots Q (F0 m pc ls (.int n :: rest)) :=
  va_newa hexec hb harr hty hK hP hD hS hA ha hn hN hbytes hcells hslots hdg (fun q cA H1 hK1 hP1 hD1 hS1 => by
    have e9 := wK_same hK1 i hi
    subst e9
    exact kk q H1 hP1 hD1 hS1)
theorem w_newq (hexec : p.tables.exec = Jvm.exec) (hb : c.code = cc) {own C : String} {index : Nat} (i : Nat) {c0 : ClassId} (hi : (TY k)[i]? = some (c0, .object C)) (hown : s.vm.findClass own = some m.cls) (hclink : (Cond.classLink own index C).before args s = true) (hover : va_AO C s) (hK : va_K D vwCl (TY k) s) (hP : va_P D vwCl ws H) (hD : va_D A ws) (hS : va_S A H0 H locs) (hA : ∀ q, H0.size ≤ q → A q) {n : Int32} {N' : Nat} (hn : ¬ n < 0) (hN : n.toNatClampNeg = N') (hbytes : N' * 4 ≤ 536870912) (hcells : cells + 1 ≤ R.cells) (hslots : slots + N' ≤ R.slots) (hdg : decode cc pc = .ok (.anewarray index, 3))
    (kk : ∀ (q : Nat) (H1 : Heap), va_P D vwCl (ws ++ [(q, .inl (c0, N', .inr (.inr (.inr (.inr (fun _ => none))))))]) H1 → va_D A (ws ++ [(q, .inl (c0, N', .inr (.inr (.inr (.inr (fun _ => none))))))]) → va_S A H0 H1 locs → W p l e R s m args below meth c H1 locs (cells + 1) (slots + N') Q (F0 m (pc + 3) ls (.ref q :: rest))) : W p l e R s m args below meth c H locs cells slots Q (F0 m pc ls (.int n :: rest)) :=
  va_newq hexec hb hown hclink hover hK hP hD hS hA hn hN hbytes hcells hslots hdg (fun q cA H1 hK1 hP1 hD1 hS1 => by
    have e9 := wK_same hK1 i hi
    subst e9
    exact kk q H1 hP1 hD1 hS1)
/-- new T[n][], T an array's -/
theorem w_newA (hexec : p.tables.exec = Jvm.exec) (hb : c.code = cc) {own : String} {t : FieldType} {index : Nat} (i : Nat) {c0 : ClassId} (hi : (TY k)[i]? = some (c0, .array t)) (hown : s.vm.findClass own = some m.cls) (hclink : (Cond.classLink own index (FieldType.array t).toString).before args s = true) (hover : va_AOA t s) (hK : va_K D vwCl (TY k) s) (hP : va_P D vwCl ws H) (hD : va_D A ws) (hS : va_S A H0 H locs) (hA : ∀ q, H0.size ≤ q → A q) {n : Int32} {N' : Nat} (hn : ¬ n < 0) (hN : n.toNatClampNeg = N') (hbytes : N' * 4 ≤ 536870912) (hcells : cells + 1 ≤ R.cells) (hslots : slots + N' ≤ R.slots) (hdg : decode cc pc = .ok (.anewarray index, 3))
    (kk : ∀ (q : Nat) (H1 : Heap), va_P D vwCl (ws ++ [(q, .inl (c0, N', .inr (.inr (.inr (.inr (fun _ => none))))))]) H1 → va_D A (ws ++ [(q, .inl (c0, N', .inr (.inr (.inr (.inr (fun _ => none))))))]) → va_S A H0 H1 locs → W p l e R s m args below meth c H1 locs (cells + 1) (slots + N') Q (F0 m (pc + 3) ls (.ref q :: rest))) : W p l e R s m args below meth c H locs cells slots Q (F0 m pc ls (.int n :: rest)) := by
  subst hN
  refine W.anewA hexec hb hown hclink (show (Cond.arrayOver (.array t)).before args s = true from hover) rfl hdg rfl hn hbytes hcells hslots fun cA kA comp f1 f2 f3 f4 => ?_
  have e9 : cA = c0 := ra_one (ty := .array t) f1 (hK.2 i _ hi).2
  subst e9
  generalize hH1 : H.push ({ cls := cA, slots := Array.replicate n.toNatClampNeg .null, vm := .none } : Cell) = H1
  have z1 : H1.size = H.size + 1 := by rw [← hH1, Array.size_push]
  have e1 : H1[H.size]? = some (arrV cA n.toNatClampNeg (fun _ => .null)) := by rw [← hH1, Array.getElem?_push_size, ← arrV_new]
  have o1 : ∀ q : Nat, q < H.size → H1[q]? = H[q]? := fun q hq => by rw [← hH1, Array.getElem?_push, if_neg (Nat.ne_of_lt hq)]
  have hk : ∀ (j : Nat) (x : Nat × va_E), ws[j]? = some x → H1[x.1]? = H[x.1]? := fun j x hx => o1 x.1 ((hP j x hx).lt)
  refine kk H.size H1 ((hP.kept hk).app (fun j x hx => ?_)) (hD.push hP rfl (hA _ hS.1)) ⟨Nat.le_trans hS.1 (by omega), fun x h1 h2 => (o1 x (Nat.lt_of_lt_of_le h1 hS.1)).trans (hS.2.1 x h1 h2), hS.2.2⟩
  have hz : j < 1 := (List.getElem?_eq_some_iff.mp hx).1
  rw [show j = 0 by omega] at hx
  cases hx
  show H1[H.size]? = some (vp_cell _ _)
  rw [vp_cell_q]
  exact e1
/-- a row out of an array of arrays -/
theorem w_aldA (hexec : p.tables.exec = Jvm.exec) (hb : c.code = cc) {ad : Nat} (hK : va_K D vwCl (TY k) s) (hP : va_P D vwCl ws H) (q0 t0 : Nat) {cA : ClassId} {t : FieldType} {n : Nat} {f : Nat → Option Nat} (ha : ws[q0]? = some (ad, .inl (cA, n, .inr (.inr (.inr (.inr f)))))) (ht : (TY k)[t0]? = some (cA, .array t)) {i : Int32} (hin : vp_in i n) (hdg : decode cc pc = .ok (.aaload, 1))
    (kk : W p l e R s m args below meth c H locs cells slots Q (F0 m (pc + 1) ls (va_rf (f i.toNatClampNeg) :: rest))) : W p l e R s m args below meth c H locs cells slots Q (F0 m pc ls (.int i :: .ref ad :: rest)) := by
  have hlt : i.toNatClampNeg < n := Nat.not_le.mp fun q => hin (Or.inr q)
  exact W.aald (v := va_rf (f i.toNatClampNeg)) (ty := .array t) hexec hb (hP q0 _ ha) ((hK.2 t0 _ ht).1 n (fun j => va_rf (f j))) rfl (fun q => by cases q) (by show ¬ (i < 0 ∨ (arrV _ _ _).slots.size ≤ _); rw [arrV_size]; exact hin) (by show (arrV _ _ _).slots[_]? = _; rw [arrV_read _ _ hlt]) rfl rfl hdg kk
end BASE

/-- the fresh reference: the object, what is there, and the arrays of its rules, queries and shapes -/
abbrev wM (k : Nat → ClassId) (mo : Nat) (w : Nat → Nat) (th : Int32) : va_W := [(mo, .inr (13, [.int th, .ref (w 0), .int 0, .ref (w 1), .int 0, .int 0, .ref (w 2), .int 0, .ref (w 3), .ref (w 4), .int 0])), ((w 0), .inl (k 5, 3, .inr (.inr (.inr (.inr (fun i => some (w (5 + i)))))))), ((w 5), .inl (k 0, 768, .inl (fun _ => 0))), ((w 6), .inl (k 0, 768, .inl (fun _ => 0))), ((w 7), .inl (k 0, 768, .inl (fun _ => 0))), ((w 1), .inl (k 6, 8, .inr (.inr (.inr (.inr (fun _ => none)))))), ((w 2), .inl (k 6, 20, .inr (.inr (.inr (.inr (fun _ => none)))))), ((w 4), .inl (k 6, 6, .inr (.inr (.inr (.inr (fun _ => none))))))]
/-- the object, and what is there in the graph j -/
abbrev wMj (k : Nat → ClassId) (mo : Nat) (w : Nat → Nat) (th : Int32) (j : Nat) : va_W := [(mo, .inr (13, [.int th, .ref (w 0), .int 0, .ref (w 1), .int 0, .int 0, .ref (w 2), .int 0, .ref (w 3), .ref (w 4), .int 0])), ((w 0), .inl (k 5, 3, .inr (.inr (.inr (.inr (fun i => some (w (5 + i)))))))), ((w (5 + j)), .inl (k 0, 768, .inl (fun _ => 0)))]
theorem wM_j {D : va_G} {H : Heap} {k : Nat → ClassId} {mo : Nat} {w : Nat → Nat} {th : Int32} (hP : va_P D vwCl (wM k mo w th) H) {j : Nat} (hj : j < 3) : va_P D vwCl (wMj k mo w th j) H := by
  match j, hj with
  | 0, _ => exact hP.sub [0, 1, 2] rfl
  | 1, _ => exact hP.sub [0, 1, 3] rfl
  | 2, _ => exact hP.sub [0, 1, 4] rfl
theorem wM_jD {A : Nat → Prop} {k : Nat → ClassId} {mo : Nat} {w : Nat → Nat} {th : Int32} (hD : va_D A (wM k mo w th)) {j : Nat} (hj : j < 3) : va_D A (wMj k mo w th j) := by
  match j, hj with
  | 0, _ => exact hD.sub [0, 1, 2] (by decide) rfl
  | 1, _ => exact hD.sub [0, 1, 3] (by decide) rfl
  | 2, _ => exact hD.sub [0, 1, 4] (by decide) rfl

set_option maxHeartbeats 4000000 in
set_option maxRecDepth 100000 in
theorem k_X12_init (l : Launch) (D : va_G) (k : Nat → ClassId) (e0 : Nat) (sz : Nat) (mo : Nat) : Met l yX12_init wsX12_init ({ frames := 1, cells := 8, slots := 2361, locals := 32 }) (mPc D k e0 sz [.ref mo] [(mo, .inr (13, [.int 0, .null, .int 0, .null, .int 0, .int 0, .null, .int 0, .null, .null, .int 0]))]) (va_Qv (fun (u : Nat → Nat) => True) (fun u t => va_P D vwCl (wM k mo u 0) t.heap ∧ va_D (va_A [(mo, .inr (13, [.int 0, .null, .int 0, .null, .int 0, .int 0, .null, .int 0, .null, .null, .int 0]))] sz) (wM k mo u 0)) (va_A [(mo, .inr (13, [.int 0, .null, .int 0, .null, .int 0, .int 0, .null, .int 0, .null, .null, .int 0]))] sz)) 8 2361 (va_A [(mo, .inr (13, [.int 0, .null, .int 0, .null, .int 0, .int 0, .null, .int 0, .null, .null, .int 0]))] sz) := by
  refine Met.ofW (cc := cX12_init) (maxL := 1) (ret := none) (by decide) rfl ?_
  intro p e s m args below meth c s₁ B hml hv
  obtain ⟨rfl, rfl, hP, hC, hD0, hHf⟩ := hv
  have hx := B.exec
  have hb := B.bytes
  have hr := B.returns
  have hts := atoms_spec (ws := wsX12_init) B.pre
  have hown : s.vm.findClass RX12 = some m.cls := findClass_of_methodNamed B.named
  have hlocks := B.notSynchronized
  have hin : meth.name = "<init>" := (name_of_methodNamed B.named B.method).1
  have hD := hD0.self (sz := s.heap.size)
  generalize hAe : va_A [(mo, .inr (13, [.int 0, .null, .int 0, .null, .int 0, .int 0, .null, .int 0, .null, .null, .int 0]))] s.heap.size = A at hD hHf ⊢
  have hA : ∀ q : Nat, s.heap.size ≤ q → A q := fun q h => by rw [← hAe]; exact Or.inr h
  have hS : va_S A s.heap s.heap [] := va_S.rf
  refine w_entry (Nat.le_of_ble_eq_true rfl) (fun ls hl => ?_)
  have hl : lv_has ls 1 [(0, .ref mo)] := hl
  refine lv_aload_n hx hb dX12_init_0 rfl (lv_at hl 0 rfl) ?_
  refine W.objInit hx hb hown (hts (.methodLink RX12 1 objectInit) (by decide +kernel)) (hts (.instanceMethod objectInit) (by decide +kernel)) (hts (.code objectInit ⟨#[0xb1]⟩ 1 none) (by decide +kernel)) rfl (by rw [hml]; exact hl.1) rfl dX12_init_1 (Nat.le_of_ble_eq_true rfl) (Nat.le_of_ble_eq_true rfl) ?_
  refine W.eq (g2 := F0 m 4 ls []) rfl ?_
  refine lv_aload_n hx hb dX12_init_4 rfl (lv_at hl 0 rfl) ?_
  refine lv_iconst (v := 3) hx hb dX12_init_5 (by decide) ?_
  refine lv_sipush (v := 768) hx hb dX12_init_6 (by decide) ?_
  refine w_mna hx hb hown (w_cl (by decide) (hts (.classLink RX12 9 "[[Z") (by decide +kernel))) hC.2.2.1.2.2.1 (hts (.arrayClass .boolean) (by decide +kernel)) hC.1 hP hD hS hA (Nat.le_of_ble_eq_true rfl) (Nat.le_of_ble_eq_true rfl) dX12_init_9 (fun q9 rr H hP hD hS => ?_)
  have hP : va_P D vwCl [(mo, .inr (13, [.int 0, .null, .int 0, .null, .int 0, .int 0, .null, .int 0, .null, .null, .int 0])), (q9, .inl (k 5, 3, .inr (.inr (.inr (.inr (fun i => if i < 3 then some (rr i) else none)))))), ((rr 0), .inl (k 0, 768, .inl (fun _ => 0))), ((rr 1), .inl (k 0, 768, .inl (fun _ => 0))), ((rr 2), .inl (k 0, 768, .inl (fun _ => 0)))] H := hP
  have hD : va_D A [(mo, .inr (13, [.int 0, .null, .int 0, .null, .int 0, .int 0, .null, .int 0, .null, .null, .int 0])), (q9, .inl (k 5, 3, .inr (.inr (.inr (.inr (fun i => if i < 3 then some (rr i) else none)))))), ((rr 0), .inl (k 0, 768, .inl (fun _ => 0))), ((rr 1), .inl (k 0, 768, .inl (fun _ => 0))), ((rr 2), .inl (k 0, 768, .inl (fun _ => 0)))] := hD
  refine va_putF (D := D) (ci := 13) (v := .ref q9) (ty := .array (.array .boolean)) (C := RX12) (T := TX12) (N := 11) hx hb hts (by decide +kernel) tyX12 tyX12_ok nmX12 hown hC.1 hP hD hS 0 rfl rfl 1 (by decide) (hts (.fieldLink RX12 11 "TriplegarthModel" "there" "[[Z") (by decide +kernel)) (fun _ h9 => h9) rfl hin rfl (by decide +kernel) rfl rfl (Nat.le_of_ble_eq_true rfl) dX12_init_13 (fun H locs hP hD hS => ?_)
  have hP : va_P D vwCl [(mo, .inr (13, [.int 0, .ref q9, .int 0, .null, .int 0, .int 0, .null, .int 0, .null, .null, .int 0])), (q9, .inl (k 5, 3, .inr (.inr (.inr (.inr (fun i => if i < 3 then some (rr i) else none)))))), ((rr 0), .inl (k 0, 768, .inl (fun _ => 0))), ((rr 1), .inl (k 0, 768, .inl (fun _ => 0))), ((rr 2), .inl (k 0, 768, .inl (fun _ => 0)))] H := hP
  have hD : va_D A [(mo, .inr (13, [.int 0, .ref q9, .int 0, .null, .int 0, .int 0, .null, .int 0, .null, .null, .int 0])), (q9, .inl (k 5, 3, .inr (.inr (.inr (.inr (fun i => if i < 3 then some (rr i) else none)))))), ((rr 0), .inl (k 0, 768, .inl (fun _ => 0))), ((rr 1), .inl (k 0, 768, .inl (fun _ => 0))), ((rr 2), .inl (k 0, 768, .inl (fun _ => 0)))] := hD
  refine lv_aload_n hx hb dX12_init_16 rfl (lv_at hl 0 rfl) ?_
  refine lv_bipush (v := 8) hx hb dX12_init_17 (by decide) ?_
  refine w_newA hx hb (t := .int) 6 rfl hown (w_cl (by decide) (hts (.classLink RX12 14 "[I") (by decide +kernel))) hC.2.2.1.2.2.2.1 hC.1 hP hD hS hA (N' := 8) (by decide) (by decide) (Nat.le_of_ble_eq_true rfl) (Nat.le_of_ble_eq_true rfl) (Nat.le_of_ble_eq_true rfl) dX12_init_19 (fun q19 H hP hD hS => ?_)
  have hP : va_P D vwCl [(mo, .inr (13, [.int 0, .ref q9, .int 0, .null, .int 0, .int 0, .null, .int 0, .null, .null, .int 0])), (q9, .inl (k 5, 3, .inr (.inr (.inr (.inr (fun i => if i < 3 then some (rr i) else none)))))), ((rr 0), .inl (k 0, 768, .inl (fun _ => 0))), ((rr 1), .inl (k 0, 768, .inl (fun _ => 0))), ((rr 2), .inl (k 0, 768, .inl (fun _ => 0))), (q19, .inl (k 6, 8, .inr (.inr (.inr (.inr (fun _ => none))))))] H := hP
  have hD : va_D A [(mo, .inr (13, [.int 0, .ref q9, .int 0, .null, .int 0, .int 0, .null, .int 0, .null, .null, .int 0])), (q9, .inl (k 5, 3, .inr (.inr (.inr (.inr (fun i => if i < 3 then some (rr i) else none)))))), ((rr 0), .inl (k 0, 768, .inl (fun _ => 0))), ((rr 1), .inl (k 0, 768, .inl (fun _ => 0))), ((rr 2), .inl (k 0, 768, .inl (fun _ => 0))), (q19, .inl (k 6, 8, .inr (.inr (.inr (.inr (fun _ => none))))))] := hD
  refine va_putF (D := D) (ci := 13) (v := .ref q19) (ty := .array (.array .int)) (C := RX12) (T := TX12) (N := 11) hx hb hts (by decide +kernel) tyX12 tyX12_ok nmX12 hown hC.1 hP hD hS 0 rfl rfl 3 (by decide) (hts (.fieldLink RX12 16 "TriplegarthModel" "rules" "[[I") (by decide +kernel)) (fun _ h9 => h9) rfl hin rfl (by decide +kernel) rfl rfl (Nat.le_of_ble_eq_true rfl) dX12_init_22 (fun H locs hP hD hS => ?_)
  have hP : va_P D vwCl [(mo, .inr (13, [.int 0, .ref q9, .int 0, .ref q19, .int 0, .int 0, .null, .int 0, .null, .null, .int 0])), (q9, .inl (k 5, 3, .inr (.inr (.inr (.inr (fun i => if i < 3 then some (rr i) else none)))))), ((rr 0), .inl (k 0, 768, .inl (fun _ => 0))), ((rr 1), .inl (k 0, 768, .inl (fun _ => 0))), ((rr 2), .inl (k 0, 768, .inl (fun _ => 0))), (q19, .inl (k 6, 8, .inr (.inr (.inr (.inr (fun _ => none))))))] H := hP
  have hD : va_D A [(mo, .inr (13, [.int 0, .ref q9, .int 0, .ref q19, .int 0, .int 0, .null, .int 0, .null, .null, .int 0])), (q9, .inl (k 5, 3, .inr (.inr (.inr (.inr (fun i => if i < 3 then some (rr i) else none)))))), ((rr 0), .inl (k 0, 768, .inl (fun _ => 0))), ((rr 1), .inl (k 0, 768, .inl (fun _ => 0))), ((rr 2), .inl (k 0, 768, .inl (fun _ => 0))), (q19, .inl (k 6, 8, .inr (.inr (.inr (.inr (fun _ => none))))))] := hD
  refine lv_aload_n hx hb dX12_init_25 rfl (lv_at hl 0 rfl) ?_
  refine lv_bipush (v := 20) hx hb dX12_init_26 (by decide) ?_
  refine w_newA hx hb (t := .int) 6 rfl hown (w_cl (by decide) (hts (.classLink RX12 14 "[I") (by decide +kernel))) hC.2.2.1.2.2.2.1 hC.1 hP hD hS hA (N' := 20) (by decide) (by decide) (Nat.le_of_ble_eq_true rfl) (Nat.le_of_ble_eq_true rfl) (Nat.le_of_ble_eq_true rfl) dX12_init_28 (fun q28 H hP hD hS => ?_)
  have hP : va_P D vwCl [(mo, .inr (13, [.int 0, .ref q9, .int 0, .ref q19, .int 0, .int 0, .null, .int 0, .null, .null, .int 0])), (q9, .inl (k 5, 3, .inr (.inr (.inr (.inr (fun i => if i < 3 then some (rr i) else none)))))), ((rr 0), .inl (k 0, 768, .inl (fun _ => 0))), ((rr 1), .inl (k 0, 768, .inl (fun _ => 0))), ((rr 2), .inl (k 0, 768, .inl (fun _ => 0))), (q19, .inl (k 6, 8, .inr (.inr (.inr (.inr (fun _ => none)))))), (q28, .inl (k 6, 20, .inr (.inr (.inr (.inr (fun _ => none))))))] H := hP
  have hD : va_D A [(mo, .inr (13, [.int 0, .ref q9, .int 0, .ref q19, .int 0, .int 0, .null, .int 0, .null, .null, .int 0])), (q9, .inl (k 5, 3, .inr (.inr (.inr (.inr (fun i => if i < 3 then some (rr i) else none)))))), ((rr 0), .inl (k 0, 768, .inl (fun _ => 0))), ((rr 1), .inl (k 0, 768, .inl (fun _ => 0))), ((rr 2), .inl (k 0, 768, .inl (fun _ => 0))), (q19, .inl (k 6, 8, .inr (.inr (.inr (.inr (fun _ => none)))))), (q28, .inl (k 6, 20, .inr (.inr (.inr (.inr (fun _ => none))))))] := hD
  refine va_putF (D := D) (ci := 13) (v := .ref q28) (ty := .array (.array .int)) (C := RX12) (T := TX12) (N := 11) hx hb hts (by decide +kernel) tyX12 tyX12_ok nmX12 hown hC.1 hP hD hS 0 rfl rfl 6 (by decide) (hts (.fieldLink RX12 20 "TriplegarthModel" "queries" "[[I") (by decide +kernel)) (fun _ h9 => h9) rfl hin rfl (by decide +kernel) rfl rfl (Nat.le_of_ble_eq_true rfl) dX12_init_31 (fun H locs hP hD hS => ?_)
  have hP : va_P D vwCl [(mo, .inr (13, [.int 0, .ref q9, .int 0, .ref q19, .int 0, .int 0, .ref q28, .int 0, .null, .null, .int 0])), (q9, .inl (k 5, 3, .inr (.inr (.inr (.inr (fun i => if i < 3 then some (rr i) else none)))))), ((rr 0), .inl (k 0, 768, .inl (fun _ => 0))), ((rr 1), .inl (k 0, 768, .inl (fun _ => 0))), ((rr 2), .inl (k 0, 768, .inl (fun _ => 0))), (q19, .inl (k 6, 8, .inr (.inr (.inr (.inr (fun _ => none)))))), (q28, .inl (k 6, 20, .inr (.inr (.inr (.inr (fun _ => none))))))] H := hP
  have hD : va_D A [(mo, .inr (13, [.int 0, .ref q9, .int 0, .ref q19, .int 0, .int 0, .ref q28, .int 0, .null, .null, .int 0])), (q9, .inl (k 5, 3, .inr (.inr (.inr (.inr (fun i => if i < 3 then some (rr i) else none)))))), ((rr 0), .inl (k 0, 768, .inl (fun _ => 0))), ((rr 1), .inl (k 0, 768, .inl (fun _ => 0))), ((rr 2), .inl (k 0, 768, .inl (fun _ => 0))), (q19, .inl (k 6, 8, .inr (.inr (.inr (.inr (fun _ => none)))))), (q28, .inl (k 6, 20, .inr (.inr (.inr (.inr (fun _ => none))))))] := hD
  refine lv_aload_n hx hb dX12_init_34 rfl (lv_at hl 0 rfl) ?_
  refine lv_bipush (v := 20) hx hb dX12_init_35 (by decide) ?_
  refine w_newA hx hb (t := .long) 7 rfl hown (w_cl (by decide) (hts (.classLink RX12 23 "[J") (by decide +kernel))) hC.2.2.1.2.2.2.2 hC.1 hP hD hS hA (N' := 20) (by decide) (by decide) (Nat.le_of_ble_eq_true rfl) (Nat.le_of_ble_eq_true rfl) (Nat.le_of_ble_eq_true rfl) dX12_init_37 (fun q37 H hP hD hS => ?_)
  have hP : va_P D vwCl [(mo, .inr (13, [.int 0, .ref q9, .int 0, .ref q19, .int 0, .int 0, .ref q28, .int 0, .null, .null, .int 0])), (q9, .inl (k 5, 3, .inr (.inr (.inr (.inr (fun i => if i < 3 then some (rr i) else none)))))), ((rr 0), .inl (k 0, 768, .inl (fun _ => 0))), ((rr 1), .inl (k 0, 768, .inl (fun _ => 0))), ((rr 2), .inl (k 0, 768, .inl (fun _ => 0))), (q19, .inl (k 6, 8, .inr (.inr (.inr (.inr (fun _ => none)))))), (q28, .inl (k 6, 20, .inr (.inr (.inr (.inr (fun _ => none)))))), (q37, .inl (k 7, 20, .inr (.inr (.inr (.inr (fun _ => none))))))] H := hP
  have hD : va_D A [(mo, .inr (13, [.int 0, .ref q9, .int 0, .ref q19, .int 0, .int 0, .ref q28, .int 0, .null, .null, .int 0])), (q9, .inl (k 5, 3, .inr (.inr (.inr (.inr (fun i => if i < 3 then some (rr i) else none)))))), ((rr 0), .inl (k 0, 768, .inl (fun _ => 0))), ((rr 1), .inl (k 0, 768, .inl (fun _ => 0))), ((rr 2), .inl (k 0, 768, .inl (fun _ => 0))), (q19, .inl (k 6, 8, .inr (.inr (.inr (.inr (fun _ => none)))))), (q28, .inl (k 6, 20, .inr (.inr (.inr (.inr (fun _ => none)))))), (q37, .inl (k 7, 20, .inr (.inr (.inr (.inr (fun _ => none))))))] := hD
  refine va_putF (D := D) (ci := 13) (v := .ref q37) (ty := .array (.array .long)) (C := RX12) (T := TX12) (N := 11) hx hb hts (by decide +kernel) tyX12 tyX12_ok nmX12 hown hC.1 hP hD hS 0 rfl rfl 8 (by decide) (hts (.fieldLink RX12 25 "TriplegarthModel" "found" "[[J") (by decide +kernel)) (fun _ h9 => h9) rfl hin rfl (by decide +kernel) rfl rfl (Nat.le_of_ble_eq_true rfl) dX12_init_40 (fun H locs hP hD hS => ?_)
  have hP : va_P D vwCl [(mo, .inr (13, [.int 0, .ref q9, .int 0, .ref q19, .int 0, .int 0, .ref q28, .int 0, .ref q37, .null, .int 0])), (q9, .inl (k 5, 3, .inr (.inr (.inr (.inr (fun i => if i < 3 then some (rr i) else none)))))), ((rr 0), .inl (k 0, 768, .inl (fun _ => 0))), ((rr 1), .inl (k 0, 768, .inl (fun _ => 0))), ((rr 2), .inl (k 0, 768, .inl (fun _ => 0))), (q19, .inl (k 6, 8, .inr (.inr (.inr (.inr (fun _ => none)))))), (q28, .inl (k 6, 20, .inr (.inr (.inr (.inr (fun _ => none)))))), (q37, .inl (k 7, 20, .inr (.inr (.inr (.inr (fun _ => none))))))] H := hP
  have hD : va_D A [(mo, .inr (13, [.int 0, .ref q9, .int 0, .ref q19, .int 0, .int 0, .ref q28, .int 0, .ref q37, .null, .int 0])), (q9, .inl (k 5, 3, .inr (.inr (.inr (.inr (fun i => if i < 3 then some (rr i) else none)))))), ((rr 0), .inl (k 0, 768, .inl (fun _ => 0))), ((rr 1), .inl (k 0, 768, .inl (fun _ => 0))), ((rr 2), .inl (k 0, 768, .inl (fun _ => 0))), (q19, .inl (k 6, 8, .inr (.inr (.inr (.inr (fun _ => none)))))), (q28, .inl (k 6, 20, .inr (.inr (.inr (.inr (fun _ => none)))))), (q37, .inl (k 7, 20, .inr (.inr (.inr (.inr (fun _ => none))))))] := hD
  refine lv_aload_n hx hb dX12_init_43 rfl (lv_at hl 0 rfl) ?_
  refine lv_bipush (v := 6) hx hb dX12_init_44 (by decide) ?_
  refine w_newA hx hb (t := .int) 6 rfl hown (w_cl (by decide) (hts (.classLink RX12 14 "[I") (by decide +kernel))) hC.2.2.1.2.2.2.1 hC.1 hP hD hS hA (N' := 6) (by decide) (by decide) (Nat.le_of_ble_eq_true rfl) (Nat.le_of_ble_eq_true rfl) (Nat.le_of_ble_eq_true rfl) dX12_init_46 (fun q46 H hP hD hS => ?_)
  have hP : va_P D vwCl [(mo, .inr (13, [.int 0, .ref q9, .int 0, .ref q19, .int 0, .int 0, .ref q28, .int 0, .ref q37, .null, .int 0])), (q9, .inl (k 5, 3, .inr (.inr (.inr (.inr (fun i => if i < 3 then some (rr i) else none)))))), ((rr 0), .inl (k 0, 768, .inl (fun _ => 0))), ((rr 1), .inl (k 0, 768, .inl (fun _ => 0))), ((rr 2), .inl (k 0, 768, .inl (fun _ => 0))), (q19, .inl (k 6, 8, .inr (.inr (.inr (.inr (fun _ => none)))))), (q28, .inl (k 6, 20, .inr (.inr (.inr (.inr (fun _ => none)))))), (q37, .inl (k 7, 20, .inr (.inr (.inr (.inr (fun _ => none)))))), (q46, .inl (k 6, 6, .inr (.inr (.inr (.inr (fun _ => none))))))] H := hP
  have hD : va_D A [(mo, .inr (13, [.int 0, .ref q9, .int 0, .ref q19, .int 0, .int 0, .ref q28, .int 0, .ref q37, .null, .int 0])), (q9, .inl (k 5, 3, .inr (.inr (.inr (.inr (fun i => if i < 3 then some (rr i) else none)))))), ((rr 0), .inl (k 0, 768, .inl (fun _ => 0))), ((rr 1), .inl (k 0, 768, .inl (fun _ => 0))), ((rr 2), .inl (k 0, 768, .inl (fun _ => 0))), (q19, .inl (k 6, 8, .inr (.inr (.inr (.inr (fun _ => none)))))), (q28, .inl (k 6, 20, .inr (.inr (.inr (.inr (fun _ => none)))))), (q37, .inl (k 7, 20, .inr (.inr (.inr (.inr (fun _ => none)))))), (q46, .inl (k 6, 6, .inr (.inr (.inr (.inr (fun _ => none))))))] := hD
  refine va_putF (D := D) (ci := 13) (v := .ref q46) (ty := .array (.array .int)) (C := RX12) (T := TX12) (N := 11) hx hb hts (by decide +kernel) tyX12 tyX12_ok nmX12 hown hC.1 hP hD hS 0 rfl rfl 9 (by decide) (hts (.fieldLink RX12 29 "TriplegarthModel" "shapes" "[[I") (by decide +kernel)) (fun _ h9 => h9) rfl hin rfl (by decide +kernel) rfl rfl (Nat.le_of_ble_eq_true rfl) dX12_init_49 (fun H locs hP hD hS => ?_)
  have hP : va_P D vwCl [(mo, .inr (13, [.int 0, .ref q9, .int 0, .ref q19, .int 0, .int 0, .ref q28, .int 0, .ref q37, .ref q46, .int 0])), (q9, .inl (k 5, 3, .inr (.inr (.inr (.inr (fun i => if i < 3 then some (rr i) else none)))))), ((rr 0), .inl (k 0, 768, .inl (fun _ => 0))), ((rr 1), .inl (k 0, 768, .inl (fun _ => 0))), ((rr 2), .inl (k 0, 768, .inl (fun _ => 0))), (q19, .inl (k 6, 8, .inr (.inr (.inr (.inr (fun _ => none)))))), (q28, .inl (k 6, 20, .inr (.inr (.inr (.inr (fun _ => none)))))), (q37, .inl (k 7, 20, .inr (.inr (.inr (.inr (fun _ => none)))))), (q46, .inl (k 6, 6, .inr (.inr (.inr (.inr (fun _ => none))))))] H := hP
  have hD : va_D A [(mo, .inr (13, [.int 0, .ref q9, .int 0, .ref q19, .int 0, .int 0, .ref q28, .int 0, .ref q37, .ref q46, .int 0])), (q9, .inl (k 5, 3, .inr (.inr (.inr (.inr (fun i => if i < 3 then some (rr i) else none)))))), ((rr 0), .inl (k 0, 768, .inl (fun _ => 0))), ((rr 1), .inl (k 0, 768, .inl (fun _ => 0))), ((rr 2), .inl (k 0, 768, .inl (fun _ => 0))), (q19, .inl (k 6, 8, .inr (.inr (.inr (.inr (fun _ => none)))))), (q28, .inl (k 6, 20, .inr (.inr (.inr (.inr (fun _ => none)))))), (q37, .inl (k 7, 20, .inr (.inr (.inr (.inr (fun _ => none)))))), (q46, .inl (k 6, 6, .inr (.inr (.inr (.inr (fun _ => none))))))] := hD
  exact W.vret hx hb hr (fun t ht hW => ⟨⟨(fun i => [q9, q19, q28, q37, q46, rr 0, rr 1, rr 2].getD i 0), rfl, trivial, ⟨by rw [ht]; exact (w_refs (g := fun i => some ((fun i => [q9, q19, q28, q37, q46, rr 0, rr 1, rr 2].getD i 0) (5 + i))) hP 1 rfl (fun i hi => by match i, hi with | 0, _ => rfl | 1, _ => rfl | 2, _ => rfl)).sub [0, 1, 2, 3, 4, 5, 6, 8] rfl, (hD.set (p := 1) (e := .inl (k 5, 3, .inr (.inr (.inr (.inr (fun i => some ((fun i => [q9, q19, q28, q37, q46, rr 0, rr 1, rr 2].getD i 0) (5 + i)))))))) rfl).sub [0, 1, 2, 3, 4, 5, 6, 8] (by decide) rfl⟩⟩, hS.F ht⟩) hS.2.2 dX12_init_52

set_option maxHeartbeats 4000000 in
set_option maxRecDepth 100000 in
theorem k_X12_thrown (l : Launch) (D : va_G) (k : Nat → ClassId) (h0 : Heap) (mo : Nat) (fs : List Value) (th : Int32) (hP : va_P D vwCl [(mo, .inr (13, fs))] h0) (hth : fs[0]? = some (.int th)) : Met l yX12_thrown wsX12_thrown ({ frames := 0, cells := 0, slots := 0, locals := 0 }) (pPc D k [.ref mo] h0) (va_Qi (fun r (_ : Unit) => r = th) (fun _ t => t.heap = h0) (fun _ => False)) 0 0 (fun _ => False) := by
  refine Met.ofW (cc := cX12_thrown) (maxL := 1) (ret := (some .int)) (by decide) rfl ?_
  intro p e s m args below meth c s₁ B hml hv
  obtain ⟨rfl, rfl, hC⟩ := hv
  have hx := B.exec
  have hb := B.bytes
  have hr := B.returns
  have hts := atoms_spec (ws := wsX12_thrown) B.pre
  have hown : s.vm.findClass RX12 = some m.cls := findClass_of_methodNamed B.named
  have hlocks := B.notSynchronized
  have hS : va_S (fun _ => False) s.heap s.heap [] := va_S.rf
  refine w_entry (Nat.le_of_ble_eq_true rfl) (fun ls hl => ?_)
  have hl : lv_has ls 1 [(0, .ref mo)] := hl
  refine lv_aload_n hx hb dX12_thrown_0 rfl (lv_at hl 0 rfl) ?_
  refine va_get (D := D) (ci := 13) (v := .int th) (C := RX12) (T := TX12) (N := 11) hx hb hts (by decide +kernel) hown hC.1 hP 0 rfl rfl 0 (by decide) (hts (.fieldLink RX12 32 "TriplegarthModel" "thrown" "I") (by decide +kernel)) (fun _ h9 => h9) hth dX12_thrown_1 ?_
  exact W.iret (v := th) hx hb hr (fun t ht hW => ⟨⟨th, (), rfl, rfl, ht⟩, hS.F ht⟩) hS.2.2 dX12_thrown_4

set_option maxHeartbeats 4000000 in
set_option maxRecDepth 100000 in
theorem k_X12_in (l : Launch) (D : va_G) (k : Nat → ClassId) (h0 : Heap) (x y z : Int32) : Met l yX12_in wsX12_in ({ frames := 0, cells := 0, slots := 0, locals := 0 }) (pPc D k [.int x, .int y, .int z] h0) (va_Qi (fun r (_ : Unit) => r = bi (y.toInt ≤ x.toInt ∧ x.toInt ≤ z.toInt)) (fun _ t => t.heap = h0) (fun _ => False)) 0 0 (fun _ => False) := by
  refine Met.ofW (cc := cX12_in) (maxL := 3) (ret := (some .boolean)) (by decide) rfl ?_
  intro p e s m args below meth c s₁ B hml hv
  obtain ⟨rfl, rfl, hC⟩ := hv
  have hx := B.exec
  have hb := B.bytes
  have hr := B.returns
  have hts := atoms_spec (ws := wsX12_in) B.pre
  have hown : s.vm.findClass RX12 = some m.cls := findClass_of_methodNamed B.named
  have hlocks := B.notSynchronized
  have hS : va_S (fun _ => False) s.heap s.heap [] := va_S.rf
  refine w_entry (Nat.le_of_ble_eq_true rfl) (fun ls hl => ?_)
  have hl : lv_has ls 3 [(0, .int x), (1, .int y), (2, .int z)] := hl
  refine lv_iload_n hx hb dX12_in_0 rfl (lv_at hl 0 rfl) ?_
  refine lv_iload_n hx hb dX12_in_1 rfl (lv_at hl 1 rfl) ?_
  refine lv_icmp_lt (tgt := 14) hx hb dX12_in_2 (by decide) (fun c_2 => ?_) (fun c_2 => ?_)
  · have g_2 : x.toInt < y.toInt := i32_lt c_2
    refine lv_iconst (v := 0) hx hb dX12_in_14 (by decide) ?_
    exact W.zret (v := 0) (ty := .boolean) hx hb hr (rfl) (fun t ht hW => ⟨⟨0, (), rfl, bi_f (by omega), ht⟩, hS.F ht⟩) hS.2.2 dX12_in_15
  · have g_2 : y.toInt ≤ x.toInt := i32_nlt c_2
    refine lv_iload_n hx hb dX12_in_5 rfl (lv_at hl 0 rfl) ?_
    refine lv_iload_n hx hb dX12_in_6 rfl (lv_at hl 2 rfl) ?_
    refine lv_icmp_gt (tgt := 14) hx hb dX12_in_7 (by decide) (fun c_7 => ?_) (fun c_7 => ?_)
    · have g_7 : z.toInt < x.toInt := i32_lt c_7
      refine lv_iconst (v := 0) hx hb dX12_in_14 (by decide) ?_
      exact W.zret (v := 0) (ty := .boolean) hx hb hr (rfl) (fun t ht hW => ⟨⟨0, (), rfl, bi_f (by omega), ht⟩, hS.F ht⟩) hS.2.2 dX12_in_15
    · have g_7 : x.toInt ≤ z.toInt := i32_nlt c_7
      refine lv_iconst (v := 1) hx hb dX12_in_10 (by decide) ?_
      refine lv_goto (tgt := 15) hx hb dX12_in_11 (by decide) ?_
      exact W.zret (v := 1) (ty := .boolean) hx hb hr (rfl) (fun t ht hW => ⟨⟨1, (), rfl, bi_t (by omega), ht⟩, hS.F ht⟩) hS.2.2 dX12_in_15

set_option maxHeartbeats 4000000 in
set_option maxRecDepth 100000 in
theorem k_X12_isTriple (l : Launch) (D : va_G) (k : Nat → ClassId) (h0 : Heap) (x y z : Int32) : Met l yX12_isTriple wsX12_isTriple ({ frames := 1, cells := 0, slots := 0, locals := 22 }) (pPc D k [.int x, .int y, .int z] h0) (va_Qi (fun r (_ : Unit) => r = bi ((0 ≤ x.toInt ∧ x.toInt < 8) ∧ (0 ≤ y.toInt ∧ y.toInt < 8) ∧ (0 ≤ z.toInt ∧ z.toInt < 12))) (fun _ t => t.heap = h0) (fun _ => False)) 0 0 (fun _ => False) := by
  refine Met.ofW (cc := cX12_isTriple) (maxL := 3) (ret := (some .boolean)) (by decide) rfl ?_
  intro p e s m args below meth c s₁ B hml hv
  obtain ⟨rfl, rfl, hC⟩ := hv
  have hx := B.exec
  have hb := B.bytes
  have hr := B.returns
  have hts := atoms_spec (ws := wsX12_isTriple) B.pre
  have hown : s.vm.findClass RX12 = some m.cls := findClass_of_methodNamed B.named
  have hlocks := B.notSynchronized
  have hS : va_S (fun _ => False) s.heap s.heap [] := va_S.rf
  refine w_entry (Nat.le_of_ble_eq_true rfl) (fun ls hl => ?_)
  have hl : lv_has ls 3 [(0, .int x), (1, .int y), (2, .int z)] := hl
  refine lv_iload_n hx hb dX12_isTriple_0 rfl (lv_at hl 0 rfl) ?_
  refine lv_iconst (v := 0) hx hb dX12_isTriple_1 (by decide) ?_
  refine lv_bipush (v := 7) hx hb dX12_isTriple_2 (by decide) ?_
  refine pz_i (va_runS (As := [.int x, .int 0, .int 7]) (rest := []) ⟨hx, hb, hml, hown, hts⟩ (k_X12_in l D k s.heap x 0 7) (va_cwS 3 hts gX12_isTriple_X12_in rfl rfl rfl (by decide +kernel) ⟨Nat.le_of_ble_eq_true rfl, Nat.le_of_ble_eq_true rfl⟩) ⟨pPc_fb, pPc_go hC⟩ rfl rfl hl.1 rfl (lv_room (Nat.le_of_ble_eq_true rfl)) dX12_isTriple_4 ⟨Nat.le_of_ble_eq_true rfl, Nat.le_of_ble_eq_true rfl⟩) hS (fun r1 locs hw_r1 hS => ?_)
  have hw_r1 : r1 = bi (0 ≤ x.toInt ∧ x.toInt ≤ 7) := hw_r1
  refine lv_if_eq (tgt := 34) hx hb dX12_isTriple_7 (by decide) (fun c_7 => ?_) (fun c_7 => ?_)
  · have f_7 := bi_z hw_r1 c_7
    refine lv_iconst (v := 0) hx hb dX12_isTriple_34 (by decide) ?_
    exact W.zret (v := 0) (ty := .boolean) hx hb hr (rfl) (fun t ht hW => ⟨⟨0, (), rfl, bi_f (by omega), ht⟩, hS.F ht⟩) hS.2.2 dX12_isTriple_35
  · have f_7 := bi_n hw_r1 c_7
    refine lv_iload_n hx hb dX12_isTriple_10 rfl (lv_at hl 1 rfl) ?_
    refine lv_iconst (v := 0) hx hb dX12_isTriple_11 (by decide) ?_
    refine lv_bipush (v := 7) hx hb dX12_isTriple_12 (by decide) ?_
    refine pz_i (va_runS (As := [.int y, .int 0, .int 7]) (rest := []) ⟨hx, hb, hml, hown, hts⟩ (k_X12_in l D k s.heap y 0 7) (va_cwS 3 hts gX12_isTriple_X12_in rfl rfl rfl (by decide +kernel) ⟨Nat.le_of_ble_eq_true rfl, Nat.le_of_ble_eq_true rfl⟩) ⟨pPc_fb, pPc_go hC⟩ rfl rfl hl.1 rfl (lv_room (Nat.le_of_ble_eq_true rfl)) dX12_isTriple_14 ⟨Nat.le_of_ble_eq_true rfl, Nat.le_of_ble_eq_true rfl⟩) hS (fun r2 locs hw_r2 hS => ?_)
    have hw_r2 : r2 = bi (0 ≤ y.toInt ∧ y.toInt ≤ 7) := hw_r2
    refine lv_if_eq (tgt := 34) hx hb dX12_isTriple_17 (by decide) (fun c_17 => ?_) (fun c_17 => ?_)
    · have f_17 := bi_z hw_r2 c_17
      refine lv_iconst (v := 0) hx hb dX12_isTriple_34 (by decide) ?_
      exact W.zret (v := 0) (ty := .boolean) hx hb hr (rfl) (fun t ht hW => ⟨⟨0, (), rfl, bi_f (by omega), ht⟩, hS.F ht⟩) hS.2.2 dX12_isTriple_35
    · have f_17 := bi_n hw_r2 c_17
      refine lv_iload_n hx hb dX12_isTriple_20 rfl (lv_at hl 2 rfl) ?_
      refine lv_iconst (v := 0) hx hb dX12_isTriple_21 (by decide) ?_
      refine lv_bipush (v := 11) hx hb dX12_isTriple_22 (by decide) ?_
      refine pz_i (va_runS (As := [.int z, .int 0, .int 11]) (rest := []) ⟨hx, hb, hml, hown, hts⟩ (k_X12_in l D k s.heap z 0 11) (va_cwS 3 hts gX12_isTriple_X12_in rfl rfl rfl (by decide +kernel) ⟨Nat.le_of_ble_eq_true rfl, Nat.le_of_ble_eq_true rfl⟩) ⟨pPc_fb, pPc_go hC⟩ rfl rfl hl.1 rfl (lv_room (Nat.le_of_ble_eq_true rfl)) dX12_isTriple_24 ⟨Nat.le_of_ble_eq_true rfl, Nat.le_of_ble_eq_true rfl⟩) hS (fun r3 locs hw_r3 hS => ?_)
      have hw_r3 : r3 = bi (0 ≤ z.toInt ∧ z.toInt ≤ 11) := hw_r3
      refine lv_if_eq (tgt := 34) hx hb dX12_isTriple_27 (by decide) (fun c_27 => ?_) (fun c_27 => ?_)
      · have f_27 := bi_z hw_r3 c_27
        refine lv_iconst (v := 0) hx hb dX12_isTriple_34 (by decide) ?_
        exact W.zret (v := 0) (ty := .boolean) hx hb hr (rfl) (fun t ht hW => ⟨⟨0, (), rfl, bi_f (by omega), ht⟩, hS.F ht⟩) hS.2.2 dX12_isTriple_35
      · have f_27 := bi_n hw_r3 c_27
        refine lv_iconst (v := 1) hx hb dX12_isTriple_30 (by decide) ?_
        refine lv_goto (tgt := 35) hx hb dX12_isTriple_31 (by decide) ?_
        exact W.zret (v := 1) (ty := .boolean) hx hb hr (rfl) (fun t ht hW => ⟨⟨1, (), rfl, bi_t (by omega), ht⟩, hS.F ht⟩) hS.2.2 dX12_isTriple_35

set_option maxHeartbeats 4000000 in
set_option maxRecDepth 100000 in
theorem k_X12_isName (l : Launch) (D : va_G) (k : Nat → ClassId) (h0 : Heap) (x : Int32) : Met l yX12_isName wsX12_isName ({ frames := 1, cells := 0, slots := 0, locals := 22 }) (pPc D k [.int x] h0) (va_Qi (fun r (_ : Unit) => r = bi (0 ≤ x.toInt ∧ x.toInt < 8)) (fun _ t => t.heap = h0) (fun _ => False)) 0 0 (fun _ => False) := by
  refine Met.ofW (cc := cX12_isName) (maxL := 1) (ret := (some .boolean)) (by decide) rfl ?_
  intro p e s m args below meth c s₁ B hml hv
  obtain ⟨rfl, rfl, hC⟩ := hv
  have hx := B.exec
  have hb := B.bytes
  have hr := B.returns
  have hts := atoms_spec (ws := wsX12_isName) B.pre
  have hown : s.vm.findClass RX12 = some m.cls := findClass_of_methodNamed B.named
  have hlocks := B.notSynchronized
  have hS : va_S (fun _ => False) s.heap s.heap [] := va_S.rf
  refine w_entry (Nat.le_of_ble_eq_true rfl) (fun ls hl => ?_)
  have hl : lv_has ls 1 [(0, .int x)] := hl
  refine lv_iload_n hx hb dX12_isName_0 rfl (lv_at hl 0 rfl) ?_
  refine lv_iconst (v := 0) hx hb dX12_isName_1 (by decide) ?_
  refine lv_bipush (v := 7) hx hb dX12_isName_2 (by decide) ?_
  refine pz_i (va_runS (As := [.int x, .int 0, .int 7]) (rest := []) ⟨hx, hb, hml, hown, hts⟩ (k_X12_in l D k s.heap x 0 7) (va_cwS 3 hts gX12_isName_X12_in rfl rfl rfl (by decide +kernel) ⟨Nat.le_of_ble_eq_true rfl, Nat.le_of_ble_eq_true rfl⟩) ⟨pPc_fb, pPc_go hC⟩ rfl rfl hl.1 rfl (lv_room (Nat.le_of_ble_eq_true rfl)) dX12_isName_4 ⟨Nat.le_of_ble_eq_true rfl, Nat.le_of_ble_eq_true rfl⟩) hS (fun r1 locs hw_r1 hS => ?_)
  have hw_r1 : r1 = bi (0 ≤ x.toInt ∧ x.toInt ≤ 7) := hw_r1
  exact W.zret (v := r1) (ty := .boolean) hx hb hr (bi_nar hw_r1) (fun t ht hW => ⟨⟨r1, (), rfl, (by by_cases h9 : (0 ≤ x.toInt ∧ x.toInt < 8); exact (hw_r1.trans (bi_t (by omega)).symm).trans (bi_t h9); exact (hw_r1.trans (bi_f (by omega)).symm).trans (bi_f h9)), ht⟩, hS.F ht⟩) hS.2.2 dX12_isName_7

set_option maxHeartbeats 4000000 in
set_option maxRecDepth 100000 in
theorem k_X12_isPlace (l : Launch) (D : va_G) (k : Nat → ClassId) (h0 : Heap) (x : Int32) : Met l yX12_isPlace wsX12_isPlace ({ frames := 1, cells := 0, slots := 0, locals := 22 }) (pPc D k [.int x] h0) (va_Qi (fun r (_ : Unit) => r = bi ((0 ≤ x.toInt ∧ x.toInt < 12) ∨ (20 ≤ x.toInt ∧ x.toInt < 23))) (fun _ t => t.heap = h0) (fun _ => False)) 0 0 (fun _ => False) := by
  refine Met.ofW (cc := cX12_isPlace) (maxL := 1) (ret := (some .boolean)) (by decide) rfl ?_
  intro p e s m args below meth c s₁ B hml hv
  obtain ⟨rfl, rfl, hC⟩ := hv
  have hx := B.exec
  have hb := B.bytes
  have hr := B.returns
  have hts := atoms_spec (ws := wsX12_isPlace) B.pre
  have hown : s.vm.findClass RX12 = some m.cls := findClass_of_methodNamed B.named
  have hlocks := B.notSynchronized
  have hS : va_S (fun _ => False) s.heap s.heap [] := va_S.rf
  refine w_entry (Nat.le_of_ble_eq_true rfl) (fun ls hl => ?_)
  have hl : lv_has ls 1 [(0, .int x)] := hl
  refine lv_iload_n hx hb dX12_isPlace_0 rfl (lv_at hl 0 rfl) ?_
  refine lv_iconst (v := 0) hx hb dX12_isPlace_1 (by decide) ?_
  refine lv_bipush (v := 11) hx hb dX12_isPlace_2 (by decide) ?_
  refine pz_i (va_runS (As := [.int x, .int 0, .int 11]) (rest := []) ⟨hx, hb, hml, hown, hts⟩ (k_X12_in l D k s.heap x 0 11) (va_cwS 3 hts gX12_isPlace_X12_in rfl rfl rfl (by decide +kernel) ⟨Nat.le_of_ble_eq_true rfl, Nat.le_of_ble_eq_true rfl⟩) ⟨pPc_fb, pPc_go hC⟩ rfl rfl hl.1 rfl (lv_room (Nat.le_of_ble_eq_true rfl)) dX12_isPlace_4 ⟨Nat.le_of_ble_eq_true rfl, Nat.le_of_ble_eq_true rfl⟩) hS (fun r1 locs hw_r1 hS => ?_)
  have hw_r1 : r1 = bi (0 ≤ x.toInt ∧ x.toInt ≤ 11) := hw_r1
  refine lv_if_ne (tgt := 21) hx hb dX12_isPlace_7 (by decide) (fun c_7 => ?_) (fun c_7 => ?_)
  · have f_7 := bi_n hw_r1 c_7
    refine lv_iconst (v := 1) hx hb dX12_isPlace_21 (by decide) ?_
    refine lv_goto (tgt := 26) hx hb dX12_isPlace_22 (by decide) ?_
    exact W.zret (v := 1) (ty := .boolean) hx hb hr (rfl) (fun t ht hW => ⟨⟨1, (), rfl, bi_t (by omega), ht⟩, hS.F ht⟩) hS.2.2 dX12_isPlace_26
  · have f_7 := bi_z hw_r1 c_7
    refine lv_iload_n hx hb dX12_isPlace_10 rfl (lv_at hl 0 rfl) ?_
    refine lv_bipush (v := 20) hx hb dX12_isPlace_11 (by decide) ?_
    refine lv_bipush (v := 22) hx hb dX12_isPlace_13 (by decide) ?_
    refine pz_i (va_runS (As := [.int x, .int 20, .int 22]) (rest := []) ⟨hx, hb, hml, hown, hts⟩ (k_X12_in l D k s.heap x 20 22) (va_cwS 3 hts gX12_isPlace_X12_in rfl rfl rfl (by decide +kernel) ⟨Nat.le_of_ble_eq_true rfl, Nat.le_of_ble_eq_true rfl⟩) ⟨pPc_fb, pPc_go hC⟩ rfl rfl hl.1 rfl (lv_room (Nat.le_of_ble_eq_true rfl)) dX12_isPlace_15 ⟨Nat.le_of_ble_eq_true rfl, Nat.le_of_ble_eq_true rfl⟩) hS (fun r2 locs hw_r2 hS => ?_)
    have hw_r2 : r2 = bi (20 ≤ x.toInt ∧ x.toInt ≤ 22) := hw_r2
    refine lv_if_eq (tgt := 25) hx hb dX12_isPlace_18 (by decide) (fun c_18 => ?_) (fun c_18 => ?_)
    · have f_18 := bi_z hw_r2 c_18
      refine lv_iconst (v := 0) hx hb dX12_isPlace_25 (by decide) ?_
      exact W.zret (v := 0) (ty := .boolean) hx hb hr (rfl) (fun t ht hW => ⟨⟨0, (), rfl, bi_f (by omega), ht⟩, hS.F ht⟩) hS.2.2 dX12_isPlace_26
    · have f_18 := bi_n hw_r2 c_18
      refine lv_iconst (v := 1) hx hb dX12_isPlace_21 (by decide) ?_
      refine lv_goto (tgt := 26) hx hb dX12_isPlace_22 (by decide) ?_
      exact W.zret (v := 1) (ty := .boolean) hx hb hr (rfl) (fun t ht hW => ⟨⟨1, (), rfl, bi_t (by omega), ht⟩, hS.F ht⟩) hS.2.2 dX12_isPlace_26

set_option maxHeartbeats 4000000 in
set_option maxRecDepth 100000 in
theorem k_X12_cell (l : Launch) (D : va_G) (k : Nat → ClassId) (h0 : Heap) (x y z : Int32) : Met l yX12_cell wsX12_cell ({ frames := 0, cells := 0, slots := 0, locals := 0 }) (pPc D k [.int x, .int y, .int z] h0) (va_Qi (fun r (_ : Unit) => r = (x * 8 + y) * 12 + z) (fun _ t => t.heap = h0) (fun _ => False)) 0 0 (fun _ => False) := by
  refine Met.ofW (cc := cX12_cell) (maxL := 3) (ret := (some .int)) (by decide) rfl ?_
  intro p e s m args below meth c s₁ B hml hv
  obtain ⟨rfl, rfl, hC⟩ := hv
  have hx := B.exec
  have hb := B.bytes
  have hr := B.returns
  have hts := atoms_spec (ws := wsX12_cell) B.pre
  have hown : s.vm.findClass RX12 = some m.cls := findClass_of_methodNamed B.named
  have hlocks := B.notSynchronized
  have hS : va_S (fun _ => False) s.heap s.heap [] := va_S.rf
  refine w_entry (Nat.le_of_ble_eq_true rfl) (fun ls hl => ?_)
  have hl : lv_has ls 3 [(0, .int x), (1, .int y), (2, .int z)] := hl
  refine lv_iload_n hx hb dX12_cell_0 rfl (lv_at hl 0 rfl) ?_
  refine lv_bipush (v := 8) hx hb dX12_cell_1 (by decide) ?_
  refine lv_imul hx hb dX12_cell_3 ?_
  refine w_top (y := x * 8) (rfl) ?_
  refine lv_iload_n hx hb dX12_cell_4 rfl (lv_at hl 1 rfl) ?_
  refine lv_iadd hx hb dX12_cell_5 ?_
  refine w_top (y := (x * 8) + y) (rfl) ?_
  refine lv_bipush (v := 12) hx hb dX12_cell_6 (by decide) ?_
  refine lv_imul hx hb dX12_cell_8 ?_
  refine w_top (y := ((x * 8) + y) * 12) (rfl) ?_
  refine lv_iload_n hx hb dX12_cell_9 rfl (lv_at hl 2 rfl) ?_
  refine lv_iadd hx hb dX12_cell_10 ?_
  refine w_top (y := (((x * 8) + y) * 12) + z) (rfl) ?_
  exact W.iret (v := (((x * 8) + y) * 12) + z) hx hb hr (fun t ht hW => ⟨⟨(((x * 8) + y) * 12) + z, (), rfl, rfl, ht⟩, hS.F ht⟩) hS.2.2 dX12_cell_11

set_option maxHeartbeats 4000000 in
set_option maxRecDepth 100000 in
theorem k_X12_isQuery (l : Launch) (D : va_G) (k : Nat → ClassId) (h0 : Heap) (mo : Nat) (w : Nat → Nat) (n : Int32) (hP : va_P D vwCl [(mo, .inr (13, [.int 0, .ref (w 0), .int 0, .ref (w 1), .int 0, .int 0, .ref (w 2), .int 0, .ref (w 3), .ref (w 4), .int 0]))] h0)  : Met l yX12_isQuery wsX12_isQuery ({ frames := 1, cells := 0, slots := 0, locals := 22 }) (pPc D k [.ref mo, .int n] h0) (va_Qi (fun r (_ : Unit) => r = 0) (fun _ t => t.heap = h0) (fun _ => False)) 0 0 (fun _ => False) := by
  refine Met.ofW (cc := cX12_isQuery) (maxL := 2) (ret := (some .boolean)) (by decide) rfl ?_
  intro p e s m args below meth c s₁ B hml hv
  obtain ⟨rfl, rfl, hC⟩ := hv
  have hx := B.exec
  have hb := B.bytes
  have hr := B.returns
  have hts := atoms_spec (ws := wsX12_isQuery) B.pre
  have hown : s.vm.findClass RX12 = some m.cls := findClass_of_methodNamed B.named
  have hlocks := B.notSynchronized
  have hS : va_S (fun _ => False) s.heap s.heap [] := va_S.rf
  refine w_entry (Nat.le_of_ble_eq_true rfl) (fun ls hl => ?_)
  have hl : lv_has ls 2 [(0, .ref mo), (1, .int n)] := hl
  refine lv_iload_n hx hb dX12_isQuery_0 rfl (lv_at hl 1 rfl) ?_
  refine lv_iconst (v := 0) hx hb dX12_isQuery_1 (by decide) ?_
  refine lv_aload_n hx hb dX12_isQuery_2 rfl (lv_at hl 0 rfl) ?_
  refine va_get (D := D) (ci := 13) (v := .int 0) (C := RX12) (T := TX12) (N := 11) hx hb hts (by decide +kernel) hown hC.1 hP 0 rfl rfl 7 (by decide) (hts (.fieldLink RX12 91 "TriplegarthModel" "queryMany" "I") (by decide +kernel)) (fun _ h9 => h9) rfl dX12_isQuery_3 ?_
  refine lv_iconst (v := 1) hx hb dX12_isQuery_6 (by decide) ?_
  refine lv_isub hx hb dX12_isQuery_7 ?_
  refine w_top (y := (-1)) (by decide) ?_
  refine pz_i (va_runS (As := [.int n, .int 0, .int (-1)]) (rest := []) ⟨hx, hb, hml, hown, hts⟩ (k_X12_in l D k s.heap n 0 (-1)) (va_cwS 3 hts gX12_isQuery_X12_in rfl rfl rfl (by decide +kernel) ⟨Nat.le_of_ble_eq_true rfl, Nat.le_of_ble_eq_true rfl⟩) ⟨pPc_fb, pPc_go hC⟩ rfl rfl hl.1 rfl (lv_room (Nat.le_of_ble_eq_true rfl)) dX12_isQuery_8 ⟨Nat.le_of_ble_eq_true rfl, Nat.le_of_ble_eq_true rfl⟩) hS (fun r1 locs hw_r1 hS => ?_)
  have hw_r1 : r1 = bi (0 ≤ n.toInt ∧ n.toInt ≤ -1) := hw_r1
  exact W.zret (v := r1) (ty := .boolean) hx hb hr (bi_nar hw_r1) (fun t ht hW => ⟨⟨r1, (), rfl, (hw_r1.trans (bi_f (by omega)).symm), ht⟩, hS.F ht⟩) hS.2.2 dX12_isQuery_11

set_option maxHeartbeats 4000000 in
set_option maxRecDepth 100000 in
theorem k_X12_fails (l : Launch) (D : va_G) (k : Nat → ClassId) (e0 : Nat) (sz : Nat) (mo : Nat) (w : Nat → Nat) (th x : Int32) : Met l yX12_fails wsX12_fails ({ frames := 0, cells := 0, slots := 0, locals := 0 }) (mPc D k e0 sz [.ref mo, .int x] [(mo, .inr (13, [.int th, .ref (w 0), .int 0, .ref (w 1), .int 0, .int 0, .ref (w 2), .int 0, .ref (w 3), .ref (w 4), .int 0]))]) (va_Qi (fun r (_ : Unit) => r = bi (0 < x.toInt)) (fun _ t => va_P D vwCl [(mo, .inr (13, [.int x, .ref (w 0), .int 0, .ref (w 1), .int 0, .int 0, .ref (w 2), .int 0, .ref (w 3), .ref (w 4), .int 0]))] t.heap ∧ va_D (va_A [(mo, .inr (13, [.int th, .ref (w 0), .int 0, .ref (w 1), .int 0, .int 0, .ref (w 2), .int 0, .ref (w 3), .ref (w 4), .int 0]))] sz) [(mo, .inr (13, [.int x, .ref (w 0), .int 0, .ref (w 1), .int 0, .int 0, .ref (w 2), .int 0, .ref (w 3), .ref (w 4), .int 0]))]) (va_A [(mo, .inr (13, [.int th, .ref (w 0), .int 0, .ref (w 1), .int 0, .int 0, .ref (w 2), .int 0, .ref (w 3), .ref (w 4), .int 0]))] sz)) 0 0 (va_A [(mo, .inr (13, [.int th, .ref (w 0), .int 0, .ref (w 1), .int 0, .int 0, .ref (w 2), .int 0, .ref (w 3), .ref (w 4), .int 0]))] sz) := by
  refine Met.ofW (cc := cX12_fails) (maxL := 2) (ret := (some .boolean)) (by decide) rfl ?_
  intro p e s m args below meth c s₁ B hml hv
  obtain ⟨rfl, rfl, hP, hC, hD0, hHf⟩ := hv
  have hx := B.exec
  have hb := B.bytes
  have hr := B.returns
  have hts := atoms_spec (ws := wsX12_fails) B.pre
  have hown : s.vm.findClass RX12 = some m.cls := findClass_of_methodNamed B.named
  have hlocks := B.notSynchronized
  have hD := hD0.self (sz := s.heap.size)
  generalize hAe : va_A [(mo, .inr (13, [.int th, .ref (w 0), .int 0, .ref (w 1), .int 0, .int 0, .ref (w 2), .int 0, .ref (w 3), .ref (w 4), .int 0]))] s.heap.size = A at hD hHf ⊢
  have hA : ∀ q : Nat, s.heap.size ≤ q → A q := fun q h => by rw [← hAe]; exact Or.inr h
  have hS : va_S A s.heap s.heap [] := va_S.rf
  refine w_entry (Nat.le_of_ble_eq_true rfl) (fun ls hl => ?_)
  have hl : lv_has ls 2 [(0, .ref mo), (1, .int x)] := hl
  refine lv_aload_n hx hb dX12_fails_0 rfl (lv_at hl 0 rfl) ?_
  refine lv_iload_n hx hb dX12_fails_1 rfl (lv_at hl 1 rfl) ?_
  refine va_put (D := D) (ci := 13) (v := .int x) (ty := .int) (C := RX12) (T := TX12) (N := 11) hx hb hts (by decide +kernel) tyX12 tyX12_ok nmX12 hown hC.1 hP hD hS 0 rfl rfl 0 (by decide) (hts (.fieldLink RX12 32 "TriplegarthModel" "thrown" "I") (by decide +kernel)) (fun _ h9 => h9) rfl (by decide +kernel) rfl rfl (Nat.le_of_ble_eq_true rfl) dX12_fails_2 (fun H locs hP hD hS => ?_)
  have hP : va_P D vwCl [(mo, .inr (13, [.int x, .ref (w 0), .int 0, .ref (w 1), .int 0, .int 0, .ref (w 2), .int 0, .ref (w 3), .ref (w 4), .int 0]))] H := hP
  have hD : va_D A [(mo, .inr (13, [.int x, .ref (w 0), .int 0, .ref (w 1), .int 0, .int 0, .ref (w 2), .int 0, .ref (w 3), .ref (w 4), .int 0]))] := hD
  refine lv_iload_n hx hb dX12_fails_5 rfl (lv_at hl 1 rfl) ?_
  refine lv_if_le (tgt := 13) hx hb dX12_fails_6 (by decide) (fun c_6 => ?_) (fun c_6 => ?_)
  · have g_6 : x.toInt ≤ 0 := i32_le c_6
    refine lv_iconst (v := 0) hx hb dX12_fails_13 (by decide) ?_
    exact W.zret (v := 0) (ty := .boolean) hx hb hr (rfl) (fun t ht hW => ⟨⟨0, (), rfl, bi_f (by omega), ⟨by rw [ht]; exact hP, hD⟩⟩, hS.F ht⟩) hS.2.2 dX12_fails_14
  · have g_6 : 0 < x.toInt := i32_nle c_6
    refine lv_iconst (v := 1) hx hb dX12_fails_9 (by decide) ?_
    refine lv_goto (tgt := 14) hx hb dX12_fails_10 (by decide) ?_
    exact W.zret (v := 1) (ty := .boolean) hx hb hr (rfl) (fun t ht hW => ⟨⟨1, (), rfl, bi_t (by omega), ⟨by rw [ht]; exact hP, hD⟩⟩, hS.F ht⟩) hS.2.2 dX12_fails_14

set_option maxHeartbeats 4000000 in
set_option maxRecDepth 100000 in
theorem k_Jxa1e45_init_da8c8 (l : Launch) (D : va_G) (k : Nat → ClassId) (e0 : Nat) (sz : Nat) (q : Nat) : Met l yJxa1e45_init_da8c8 wsJxa1e45_init_da8c8 ({ frames := 1, cells := 0, slots := 0, locals := 32 }) (mPc D k e0 sz [.ref q] [(q, .inr (2, [.int 0, .null, .int 0]))]) (va_Qv (fun (_ : Unit) => True) (fun _ t => va_P D vwCl [(q, .inr (2, [.int 0, .null, .int 0]))] t.heap ∧ va_D (va_A [(q, .inr (2, [.int 0, .null, .int 0]))] sz) [(q, .inr (2, [.int 0, .null, .int 0]))]) (va_A [(q, .inr (2, [.int 0, .null, .int 0]))] sz)) 0 0 (va_A [(q, .inr (2, [.int 0, .null, .int 0]))] sz) := by
  refine Met.ofW (cc := cJxa1e45_init_da8c8) (maxL := 1) (ret := none) (by decide) rfl ?_
  intro p e s m args below meth c s₁ B hml hv
  obtain ⟨rfl, rfl, hP, hC, hD0, hHf⟩ := hv
  have hx := B.exec
  have hb := B.bytes
  have hr := B.returns
  have hts := atoms_spec (ws := wsJxa1e45_init_da8c8) B.pre
  have hown : s.vm.findClass RJxa1e45 = some m.cls := findClass_of_methodNamed B.named
  have hlocks := B.notSynchronized
  have hin : meth.name = "<init>" := (name_of_methodNamed B.named B.method).1
  have hD := hD0.self (sz := s.heap.size)
  generalize hAe : va_A [(q, .inr (2, [.int 0, .null, .int 0]))] s.heap.size = A at hD hHf ⊢
  have hA : ∀ q : Nat, s.heap.size ≤ q → A q := fun q h => by rw [← hAe]; exact Or.inr h
  have hS : va_S A s.heap s.heap [] := va_S.rf
  refine w_entry (Nat.le_of_ble_eq_true rfl) (fun ls hl => ?_)
  have hl : lv_has ls 1 [(0, .ref q)] := hl
  refine lv_aload_n hx hb dJxa1e45_init_da8c8_0 rfl (lv_at hl 0 rfl) ?_
  refine W.objInit hx hb hown (hts (.methodLink RJxa1e45 1 objectInit) (by decide +kernel)) (hts (.instanceMethod objectInit) (by decide +kernel)) (hts (.code objectInit ⟨#[0xb1]⟩ 1 none) (by decide +kernel)) rfl (by rw [hml]; exact hl.1) rfl dJxa1e45_init_da8c8_1 (Nat.le_of_ble_eq_true rfl) (Nat.le_of_ble_eq_true rfl) ?_
  refine W.eq (g2 := F0 m 4 ls []) rfl ?_
  exact W.vret hx hb hr (fun t ht hW => ⟨⟨(), rfl, trivial, ⟨by rw [ht]; exact hP, hD⟩⟩, hS.F ht⟩) hS.2.2 dJxa1e45_init_da8c8_4

set_option maxHeartbeats 4000000 in
set_option maxRecDepth 100000 in
theorem k_Jxc12de_init_da8c8 (l : Launch) (D : va_G) (k : Nat → ClassId) (e0 : Nat) (sz : Nat) (q : Nat) : Met l yJxc12de_init_da8c8 wsJxc12de_init_da8c8 ({ frames := 2, cells := 0, slots := 0, locals := 52 }) (mPc D k e0 sz [.ref q] [(q, .inr (2, [.int 0, .null, .int 0]))]) (va_Qv (fun (_ : Unit) => True) (fun _ t => va_P D vwCl [(q, .inr (2, [.int 0, .null, .int 0]))] t.heap ∧ va_D (va_A [(q, .inr (2, [.int 0, .null, .int 0]))] sz) [(q, .inr (2, [.int 0, .null, .int 0]))]) (va_A [(q, .inr (2, [.int 0, .null, .int 0]))] sz)) 0 0 (va_A [(q, .inr (2, [.int 0, .null, .int 0]))] sz) := by
  refine Met.ofW (cc := cJxc12de_init_da8c8) (maxL := 1) (ret := none) (by decide) rfl ?_
  intro p e s m args below meth c s₁ B hml hv
  obtain ⟨rfl, rfl, hP, hC, hD0, hHf⟩ := hv
  have hx := B.exec
  have hb := B.bytes
  have hr := B.returns
  have hts := atoms_spec (ws := wsJxc12de_init_da8c8) B.pre
  have hown : s.vm.findClass RJxc12de = some m.cls := findClass_of_methodNamed B.named
  have hlocks := B.notSynchronized
  have hin : meth.name = "<init>" := (name_of_methodNamed B.named B.method).1
  have hD := hD0.self (sz := s.heap.size)
  generalize hAe : va_A [(q, .inr (2, [.int 0, .null, .int 0]))] s.heap.size = A at hD hHf ⊢
  have hA : ∀ q : Nat, s.heap.size ≤ q → A q := fun q h => by rw [← hAe]; exact Or.inr h
  have hS : va_S A s.heap s.heap [] := va_S.rf
  refine w_entry (Nat.le_of_ble_eq_true rfl) (fun ls hl => ?_)
  have hl : lv_has ls 1 [(0, .ref q)] := hl
  refine lv_aload_n hx hb dJxc12de_init_da8c8_0 rfl (lv_at hl 0 rfl) ?_
  have hPc := hP.sub (ws' := [(q, .inr (2, [.int 0, .null, .int 0]))]) [0] rfl
  have hDc := hD.sub (ws' := [(q, .inr (2, [.int 0, .null, .int 0]))]) [0] (by decide) rfl
  have hFc := va_free (wc := [(q, .inr (2, [.int 0, .null, .int 0]))]) hD hS hA [0] rfl
  refine va_callv (va_runI (As := []) (rest := []) ⟨hx, hb, hml, hown, hts⟩ (k_Jxa1e45_init_da8c8 l D k e0 s.heap.size q) (cwI 0 hts gJxc12de_init_da8c8_Jxa1e45_init_da8c8 rfl rfl rfl (hts (.initialized RJxa1e45) (by decide +kernel)) (hts (.methodLink RJxc12de 1 yJxa1e45_init_da8c8) (by decide +kernel)) (hts (.instanceMethod yJxa1e45_init_da8c8) (by decide +kernel)) rfl (by decide +kernel) ⟨Nat.le_of_ble_eq_true rfl, Nat.le_of_ble_eq_true rfl⟩) ⟨mPc_fb, mPc_go hC hHf hS hPc hDc hFc⟩ rfl rfl hl.1 rfl (lv_room (Nat.le_of_ble_eq_true rfl)) dJxc12de_init_da8c8_1 ⟨Nat.le_of_ble_eq_true rfl, Nat.le_of_ble_eq_true rfl⟩) hS (fun q9 _ h9 => hFc q9 h9) hFc (fun u1 t H locs ht hvm hw_r2 hB hz1 hk1 hS => ?_)
  obtain ⟨hP1, hD1⟩ := hB
  rw [ht] at hP1
  obtain ⟨hP, hD⟩ := va_join (wr := []) (w1 := [(q, .inr (2, [.int 0, .null, .int 0]))]) hP hD [0] [] rfl rfl (by decide) (by decide) hk1 hFc hP1 hD1
  have hP : va_P D vwCl [(q, .inr (2, [.int 0, .null, .int 0]))] H := hP
  have hD : va_D A [(q, .inr (2, [.int 0, .null, .int 0]))] := hD
  refine lv_aload_n hx hb dJxc12de_init_da8c8_4 rfl (lv_at hl 0 rfl) ?_
  refine lv_iconst (v := 0) hx hb dJxc12de_init_da8c8_5 (by decide) ?_
  refine va_put (D := D) (ci := 2) (v := .int 0) (ty := .int) (C := RJx4a65c) (T := TJx4a65c) (N := 3) hx hb hts (by decide +kernel) tyJx4a65c tyJx4a65c_ok nmJx4a65c hown hC.1 hP hD hS 0 rfl rfl 0 (by decide) (hts (.fieldLink RJxc12de 7 "java/util/AbstractList" "modCount" "I") (by decide +kernel)) (fun _ h9 => h9) rfl (by decide +kernel) rfl rfl (Nat.le_of_ble_eq_true rfl) dJxc12de_init_da8c8_6 (fun H locs hP hD hS => ?_)
  have hP : va_P D vwCl [(q, .inr (2, [.int 0, .null, .int 0]))] H := hP
  have hD : va_D A [(q, .inr (2, [.int 0, .null, .int 0]))] := hD
  exact W.vret hx hb hr (fun t ht hW => ⟨⟨(), rfl, trivial, ⟨by rw [ht]; exact hP, hD⟩⟩, hS.F ht⟩) hS.2.2 dJxc12de_init_da8c8_9

set_option maxHeartbeats 4000000 in
set_option maxRecDepth 100000 in
theorem k_Jx4a65c_init_da8c8 (l : Launch) (D : va_G) (k : Nat → ClassId) (e0 : Nat) (sz : Nat) (q : Nat) : Met l yJx4a65c_init_da8c8 wsJx4a65c_init_da8c8 ({ frames := 3, cells := 0, slots := 0, locals := 72 }) (mPc D k e0 sz [.ref q] [(q, .inr (2, [.int 0, .null, .int 0]))]) (va_Qv (fun (_ : Unit) => True) (fun _ t => va_P D vwCl [(q, .inr (2, [.int 0, .ref e0, .int 0]))] t.heap ∧ va_D (va_A [(q, .inr (2, [.int 0, .null, .int 0]))] sz) [(q, .inr (2, [.int 0, .ref e0, .int 0]))]) (va_A [(q, .inr (2, [.int 0, .null, .int 0]))] sz)) 0 0 (va_A [(q, .inr (2, [.int 0, .null, .int 0]))] sz) := by
  refine Met.ofW (cc := cJx4a65c_init_da8c8) (maxL := 1) (ret := none) (by decide) rfl ?_
  intro p e s m args below meth c s₁ B hml hv
  obtain ⟨rfl, rfl, hP, hC, hD0, hHf⟩ := hv
  have hx := B.exec
  have hb := B.bytes
  have hr := B.returns
  have hts := atoms_spec (ws := wsJx4a65c_init_da8c8) B.pre
  have hown : s.vm.findClass RJx4a65c = some m.cls := findClass_of_methodNamed B.named
  have hlocks := B.notSynchronized
  have hin : meth.name = "<init>" := (name_of_methodNamed B.named B.method).1
  have hD := hD0.self (sz := s.heap.size)
  generalize hAe : va_A [(q, .inr (2, [.int 0, .null, .int 0]))] s.heap.size = A at hD hHf ⊢
  have hA : ∀ q : Nat, s.heap.size ≤ q → A q := fun q h => by rw [← hAe]; exact Or.inr h
  have hS : va_S A s.heap s.heap [] := va_S.rf
  refine w_entry (Nat.le_of_ble_eq_true rfl) (fun ls hl => ?_)
  have hl : lv_has ls 1 [(0, .ref q)] := hl
  refine lv_aload_n hx hb dJx4a65c_init_da8c8_0 rfl (lv_at hl 0 rfl) ?_
  have hPc := hP.sub (ws' := [(q, .inr (2, [.int 0, .null, .int 0]))]) [0] rfl
  have hDc := hD.sub (ws' := [(q, .inr (2, [.int 0, .null, .int 0]))]) [0] (by decide) rfl
  have hFc := va_free (wc := [(q, .inr (2, [.int 0, .null, .int 0]))]) hD hS hA [0] rfl
  refine va_callv (va_runI (As := []) (rest := []) ⟨hx, hb, hml, hown, hts⟩ (k_Jxc12de_init_da8c8 l D k e0 s.heap.size q) (cwI 0 hts gJx4a65c_init_da8c8_Jxc12de_init_da8c8 rfl rfl rfl (hts (.initialized RJxc12de) (by decide +kernel)) (hts (.methodLink RJx4a65c 1 yJxc12de_init_da8c8) (by decide +kernel)) (hts (.instanceMethod yJxc12de_init_da8c8) (by decide +kernel)) rfl (by decide +kernel) ⟨Nat.le_of_ble_eq_true rfl, Nat.le_of_ble_eq_true rfl⟩) ⟨mPc_fb, mPc_go hC hHf hS hPc hDc hFc⟩ rfl rfl hl.1 rfl (lv_room (Nat.le_of_ble_eq_true rfl)) dJx4a65c_init_da8c8_1 ⟨Nat.le_of_ble_eq_true rfl, Nat.le_of_ble_eq_true rfl⟩) hS (fun q9 _ h9 => hFc q9 h9) hFc (fun u1 t H locs ht hvm hw_r2 hB hz1 hk1 hS => ?_)
  obtain ⟨hP1, hD1⟩ := hB
  rw [ht] at hP1
  obtain ⟨hP, hD⟩ := va_join (wr := []) (w1 := [(q, .inr (2, [.int 0, .null, .int 0]))]) hP hD [0] [] rfl rfl (by decide) (by decide) hk1 hFc hP1 hD1
  have hP : va_P D vwCl [(q, .inr (2, [.int 0, .null, .int 0]))] H := hP
  have hD : va_D A [(q, .inr (2, [.int 0, .null, .int 0]))] := hD
  refine lv_aload_n hx hb dJx4a65c_init_da8c8_4 rfl (lv_at hl 0 rfl) ?_
  refine va_gets hx hb hHf.2.2.1 hS hown (hts (.fieldLink RJx4a65c 39 "java/util/ArrayList" "DEFAULTCAPACITY_EMPTY_ELEMENTDATA" "[Ljava/lang/Object;") (by decide +kernel)) (fun _ h9 => h9) dJx4a65c_init_da8c8_5 ?_
  refine va_put (D := D) (ci := 2) (v := .ref e0) (ty := .array (.object "java/lang/Object")) (C := RJx4a65c) (T := TJx4a65c) (N := 3) hx hb hts (by decide +kernel) tyJx4a65c tyJx4a65c_ok nmJx4a65c hown hC.1 hP hD hS 0 rfl rfl 1 (by decide) (hts (.fieldLink RJx4a65c 9 "java/util/ArrayList" "elementData" "[Ljava/lang/Object;") (by decide +kernel)) (fun _ h9 => h9) rfl (by decide +kernel) rfl rfl (Nat.le_of_ble_eq_true rfl) dJx4a65c_init_da8c8_8 (fun H locs hP hD hS => ?_)
  have hP : va_P D vwCl [(q, .inr (2, [.int 0, .ref e0, .int 0]))] H := hP
  have hD : va_D A [(q, .inr (2, [.int 0, .ref e0, .int 0]))] := hD
  exact W.vret hx hb hr (fun t ht hW => ⟨⟨(), rfl, trivial, ⟨by rw [ht]; exact hP, hD⟩⟩, hS.F ht⟩) hS.2.2 dJx4a65c_init_da8c8_11

set_option maxHeartbeats 4000000 in
set_option maxRecDepth 100000 in
theorem k_X5_init (l : Launch) (D : va_G) (k : Nat → ClassId) (e0 : Nat) (sz : Nat) (q : Nat) : Met l yX5_init wsX5_init ({ frames := 1, cells := 2, slots := 782, locals := 32 }) (mPc D k e0 sz [.ref q] [(q, .inr (8, [.null, .int 0, .null]))]) (va_Qv (fun (u : Nat → Nat) => True) (fun u t => va_P D vwCl [(q, .inr (8, [.ref (u 0), .int 1, .ref (u 1)])), ((u 0), .inl (k 1, 768, .inr (.inl (fun _ => 0))))] t.heap ∧ va_D (va_A [(q, .inr (8, [.null, .int 0, .null]))] sz) [(q, .inr (8, [.ref (u 0), .int 1, .ref (u 1)])), ((u 0), .inl (k 1, 768, .inr (.inl (fun _ => 0))))]) (va_A [(q, .inr (8, [.null, .int 0, .null]))] sz)) 2 782 (va_A [(q, .inr (8, [.null, .int 0, .null]))] sz) := by
  refine Met.ofW (cc := cX5_init) (maxL := 1) (ret := none) (by decide) rfl ?_
  intro p e s m args below meth c s₁ B hml hv
  obtain ⟨rfl, rfl, hP, hC, hD0, hHf⟩ := hv
  have hx := B.exec
  have hb := B.bytes
  have hr := B.returns
  have hts := atoms_spec (ws := wsX5_init) B.pre
  have hown : s.vm.findClass RX5 = some m.cls := findClass_of_methodNamed B.named
  have hlocks := B.notSynchronized
  have hin : meth.name = "<init>" := (name_of_methodNamed B.named B.method).1
  have hD := hD0.self (sz := s.heap.size)
  generalize hAe : va_A [(q, .inr (8, [.null, .int 0, .null]))] s.heap.size = A at hD hHf ⊢
  have hA : ∀ q : Nat, s.heap.size ≤ q → A q := fun q h => by rw [← hAe]; exact Or.inr h
  have hS : va_S A s.heap s.heap [] := va_S.rf
  refine w_entry (Nat.le_of_ble_eq_true rfl) (fun ls hl => ?_)
  have hl : lv_has ls 1 [(0, .ref q)] := hl
  refine lv_aload_n hx hb dX5_init_0 rfl (lv_at hl 0 rfl) ?_
  refine W.objInit hx hb hown (hts (.methodLink RX5 5 objectInit) (by decide +kernel)) (hts (.instanceMethod objectInit) (by decide +kernel)) (hts (.code objectInit ⟨#[0xb1]⟩ 1 none) (by decide +kernel)) rfl (by rw [hml]; exact hl.1) rfl dX5_init_1 (Nat.le_of_ble_eq_true rfl) (Nat.le_of_ble_eq_true rfl) ?_
  refine W.eq (g2 := F0 m 4 ls []) rfl ?_
  refine lv_aload_n hx hb dX5_init_4 rfl (lv_at hl 0 rfl) ?_
  refine lv_sipush (v := 768) hx hb dX5_init_5 (by decide) ?_
  refine w_newa (atype := .long) hx hb (hts (.arrayClass .long) (by decide +kernel)) (ty := .long) rfl 1 rfl hC.1 hP hD hS hA (a0 := (768, .inr (.inl (fun _ => 0)))) (N' := 768) (fun _ => rfl) (by decide) (by decide) (Nat.le_of_ble_eq_true rfl) (Nat.le_of_ble_eq_true rfl) (Nat.le_of_ble_eq_true rfl) dX5_init_8 (fun q8 H hP hD hS => ?_)
  have hP : va_P D vwCl [(q, .inr (8, [.null, .int 0, .null])), (q8, .inl (k 1, 768, .inr (.inl (fun _ => 0))))] H := hP
  have hD : va_D A [(q, .inr (8, [.null, .int 0, .null])), (q8, .inl (k 1, 768, .inr (.inl (fun _ => 0))))] := hD
  refine va_put (D := D) (ci := 8) (v := .ref q8) (ty := .array .long) (C := RX5) (T := TX5) (N := 3) hx hb hts (by decide +kernel) tyX5 tyX5_ok nmX5 hown hC.1 hP hD hS 0 rfl rfl 0 (by decide) (hts (.fieldLink RX5 11 "Triplegarth$Proofs" "parts" "[J") (by decide +kernel)) (fun _ h9 => h9) rfl (by decide +kernel) rfl rfl (Nat.le_of_ble_eq_true rfl) dX5_init_10 (fun H locs hP hD hS => ?_)
  have hP : va_P D vwCl [(q, .inr (8, [.ref q8, .int 0, .null])), (q8, .inl (k 1, 768, .inr (.inl (fun _ => 0))))] H := hP
  have hD : va_D A [(q, .inr (8, [.ref q8, .int 0, .null])), (q8, .inl (k 1, 768, .inr (.inl (fun _ => 0))))] := hD
  refine lv_aload_n hx hb dX5_init_13 rfl (lv_at hl 0 rfl) ?_
  refine lv_iconst (v := 1) hx hb dX5_init_14 (by decide) ?_
  refine va_put (D := D) (ci := 8) (v := .int 1) (ty := .int) (C := RX5) (T := TX5) (N := 3) hx hb hts (by decide +kernel) tyX5 tyX5_ok nmX5 hown hC.1 hP hD hS 0 rfl rfl 1 (by decide) (hts (.fieldLink RX5 15 "Triplegarth$Proofs" "width" "I") (by decide +kernel)) (fun _ h9 => h9) rfl (by decide +kernel) rfl rfl (Nat.le_of_ble_eq_true rfl) dX5_init_15 (fun H locs hP hD hS => ?_)
  have hP : va_P D vwCl [(q, .inr (8, [.ref q8, .int 1, .null])), (q8, .inl (k 1, 768, .inr (.inl (fun _ => 0))))] H := hP
  have hD : va_D A [(q, .inr (8, [.ref q8, .int 1, .null])), (q8, .inl (k 1, 768, .inr (.inl (fun _ => 0))))] := hD
  refine lv_aload_n hx hb dX5_init_18 rfl (lv_at hl 0 rfl) ?_
  refine lv_bipush (v := 14) hx hb dX5_init_19 (by decide) ?_
  refine w_newa (atype := .long) hx hb (hts (.arrayClass .long) (by decide +kernel)) (ty := .long) rfl 1 rfl hC.1 hP hD hS hA (a0 := (14, .inr (.inl (fun _ => 0)))) (N' := 14) (fun _ => rfl) (by decide) (by decide) (Nat.le_of_ble_eq_true rfl) (Nat.le_of_ble_eq_true rfl) (Nat.le_of_ble_eq_true rfl) dX5_init_21 (fun q21 H hP hD hS => ?_)
  have hP : va_P D vwCl [(q, .inr (8, [.ref q8, .int 1, .null])), (q8, .inl (k 1, 768, .inr (.inl (fun _ => 0)))), (q21, .inl (k 1, 14, .inr (.inl (fun _ => 0))))] H := hP
  have hD : va_D A [(q, .inr (8, [.ref q8, .int 1, .null])), (q8, .inl (k 1, 768, .inr (.inl (fun _ => 0)))), (q21, .inl (k 1, 14, .inr (.inl (fun _ => 0))))] := hD
  refine va_putF (D := D) (ci := 8) (v := .ref q21) (ty := .array .long) (C := RX5) (T := TX5) (N := 3) hx hb hts (by decide +kernel) tyX5 tyX5_ok nmX5 hown hC.1 hP hD hS 0 rfl rfl 2 (by decide) (hts (.fieldLink RX5 19 "Triplegarth$Proofs" "total" "[J") (by decide +kernel)) (fun _ h9 => h9) rfl hin rfl (by decide +kernel) rfl rfl (Nat.le_of_ble_eq_true rfl) dX5_init_23 (fun H locs hP hD hS => ?_)
  have hP : va_P D vwCl [(q, .inr (8, [.ref q8, .int 1, .ref q21])), (q8, .inl (k 1, 768, .inr (.inl (fun _ => 0)))), (q21, .inl (k 1, 14, .inr (.inl (fun _ => 0))))] H := hP
  have hD : va_D A [(q, .inr (8, [.ref q8, .int 1, .ref q21])), (q8, .inl (k 1, 768, .inr (.inl (fun _ => 0)))), (q21, .inl (k 1, 14, .inr (.inl (fun _ => 0))))] := hD
  exact W.vret hx hb hr (fun t ht hW => ⟨⟨(fun i => [q8, q21].getD i 0), rfl, trivial, ⟨by rw [ht]; exact hP.sub [0, 1] rfl, hD.sub [0, 1] (by decide) rfl⟩⟩, hS.F ht⟩) hS.2.2 dX5_init_26

set_option maxHeartbeats 4000000 in
set_option maxRecDepth 100000 in
theorem k_X1_init (l : Launch) (D : va_G) (k : Nat → ClassId) (e0 : Nat) (sz : Nat) (q : Nat) : Met l yX1_init wsX1_init ({ frames := 2, cells := 4, slots := 1553, locals := 52 }) (mPc D k e0 sz [.ref q] [(q, .inr (4, [.null, .null, .int 0, .int 0, .int 0]))]) (va_Qv (fun (u : Nat → Nat) => True) (fun u t => va_P D vwCl [(q, .inr (4, [.ref (u 0), .ref (u 1), .int 0, .int 0, .int 0])), ((u 0), .inl (k 0, 768, .inl (fun _ => 0))), ((u 1), .inr (8, [.ref (u 2), .int 1, .ref (u 3)])), ((u 2), .inl (k 1, 768, .inr (.inl (fun _ => 0))))] t.heap ∧ va_D (va_A [(q, .inr (4, [.null, .null, .int 0, .int 0, .int 0]))] sz) [(q, .inr (4, [.ref (u 0), .ref (u 1), .int 0, .int 0, .int 0])), ((u 0), .inl (k 0, 768, .inl (fun _ => 0))), ((u 1), .inr (8, [.ref (u 2), .int 1, .ref (u 3)])), ((u 2), .inl (k 1, 768, .inr (.inl (fun _ => 0))))]) (va_A [(q, .inr (4, [.null, .null, .int 0, .int 0, .int 0]))] sz)) 4 1553 (va_A [(q, .inr (4, [.null, .null, .int 0, .int 0, .int 0]))] sz) := by
  refine Met.ofW (cc := cX1_init) (maxL := 1) (ret := none) (by decide) rfl ?_
  intro p e s m args below meth c s₁ B hml hv
  obtain ⟨rfl, rfl, hP, hC, hD0, hHf⟩ := hv
  have hx := B.exec
  have hb := B.bytes
  have hr := B.returns
  have hts := atoms_spec (ws := wsX1_init) B.pre
  have hown : s.vm.findClass RX1 = some m.cls := findClass_of_methodNamed B.named
  have hlocks := B.notSynchronized
  have hin : meth.name = "<init>" := (name_of_methodNamed B.named B.method).1
  have hD := hD0.self (sz := s.heap.size)
  generalize hAe : va_A [(q, .inr (4, [.null, .null, .int 0, .int 0, .int 0]))] s.heap.size = A at hD hHf ⊢
  have hA : ∀ q : Nat, s.heap.size ≤ q → A q := fun q h => by rw [← hAe]; exact Or.inr h
  have hS : va_S A s.heap s.heap [] := va_S.rf
  refine w_entry (Nat.le_of_ble_eq_true rfl) (fun ls hl => ?_)
  have hl : lv_has ls 1 [(0, .ref q)] := hl
  refine lv_aload_n hx hb dX1_init_0 rfl (lv_at hl 0 rfl) ?_
  refine W.objInit hx hb hown (hts (.methodLink RX1 3 objectInit) (by decide +kernel)) (hts (.instanceMethod objectInit) (by decide +kernel)) (hts (.code objectInit ⟨#[0xb1]⟩ 1 none) (by decide +kernel)) rfl (by rw [hml]; exact hl.1) rfl dX1_init_1 (Nat.le_of_ble_eq_true rfl) (Nat.le_of_ble_eq_true rfl) ?_
  refine W.eq (g2 := F0 m 4 ls []) rfl ?_
  refine lv_aload_n hx hb dX1_init_4 rfl (lv_at hl 0 rfl) ?_
  refine lv_sipush (v := 768) hx hb dX1_init_5 (by decide) ?_
  refine w_newa (atype := .boolean) hx hb (hts (.arrayClass .boolean) (by decide +kernel)) (ty := .boolean) rfl 0 rfl hC.1 hP hD hS hA (a0 := (768, .inl (fun _ => 0))) (N' := 768) (fun _ => rfl) (by decide) (by decide) (Nat.le_of_ble_eq_true rfl) (Nat.le_of_ble_eq_true rfl) (Nat.le_of_ble_eq_true rfl) dX1_init_8 (fun q8 H hP hD hS => ?_)
  have hP : va_P D vwCl [(q, .inr (4, [.null, .null, .int 0, .int 0, .int 0])), (q8, .inl (k 0, 768, .inl (fun _ => 0)))] H := hP
  have hD : va_D A [(q, .inr (4, [.null, .null, .int 0, .int 0, .int 0])), (q8, .inl (k 0, 768, .inl (fun _ => 0)))] := hD
  refine va_putF (D := D) (ci := 4) (v := .ref q8) (ty := .array .boolean) (C := RX1) (T := TX1) (N := 5) hx hb hts (by decide +kernel) tyX1 tyX1_ok nmX1 hown hC.1 hP hD hS 0 rfl rfl 0 (by decide) (hts (.fieldLink RX1 9 "Triplegarth$Graph" "there" "[Z") (by decide +kernel)) (fun _ h9 => h9) rfl hin rfl (by decide +kernel) rfl rfl (Nat.le_of_ble_eq_true rfl) dX1_init_10 (fun H locs hP hD hS => ?_)
  have hP : va_P D vwCl [(q, .inr (4, [.ref q8, .null, .int 0, .int 0, .int 0])), (q8, .inl (k 0, 768, .inl (fun _ => 0)))] H := hP
  have hD : va_D A [(q, .inr (4, [.ref q8, .null, .int 0, .int 0, .int 0])), (q8, .inl (k 0, 768, .inl (fun _ => 0)))] := hD
  refine lv_aload_n hx hb dX1_init_13 rfl (lv_at hl 0 rfl) ?_
  refine va_new (ci := 8) (fs := [.null, .int 0, .null]) (C := RX5) (T := TX5) (N := 3) hx hb hts (by decide +kernel) tyX5 tyX5_ok hown (hts (.classLink RX1 15 RX5) (by decide +kernel)) (hts (.instantiable RX5 3) (by decide +kernel)) (hts (.initialized RX5) (by decide +kernel)) hC.1 hP hD hS hA rfl (fun j hj => by rcases (show j = 0 ∨ j = 1 ∨ j = 2 by omega) with rfl | rfl | rfl <;> rfl) (Nat.le_of_ble_eq_true rfl) (Nat.le_of_ble_eq_true rfl) dX1_init_14 (fun q14 H hP hD hS => ?_)
  have hP : va_P D vwCl [(q, .inr (4, [.ref q8, .null, .int 0, .int 0, .int 0])), (q8, .inl (k 0, 768, .inl (fun _ => 0))), (q14, .inr (8, [.null, .int 0, .null]))] H := hP
  have hD : va_D A [(q, .inr (4, [.ref q8, .null, .int 0, .int 0, .int 0])), (q8, .inl (k 0, 768, .inl (fun _ => 0))), (q14, .inr (8, [.null, .int 0, .null]))] := hD
  refine lv_dup hx hb dX1_init_17 rfl ?_
  have hPc := hP.sub (ws' := [(q14, .inr (8, [.null, .int 0, .null]))]) [2] rfl
  have hDc := hD.sub (ws' := [(q14, .inr (8, [.null, .int 0, .null]))]) [2] (by decide) rfl
  have hFc := va_free (wc := [(q14, .inr (8, [.null, .int 0, .null]))]) hD hS hA [2] rfl
  refine va_callv (va_runIN (As := []) (rest := [.ref q14, .ref q]) ⟨hx, hb, hml, hown, hts⟩ (k_X5_init l D k e0 H.size q14) ⟨va_cnB 0 hts gX1_init_X5_init_n17 rfl rfl rfl hC.2.1.2.1 (hts (.initialized RX5) (by decide +kernel)) (by decide +kernel) ⟨Nat.le_of_ble_eq_true rfl, Nat.le_of_ble_eq_true rfl⟩, rfl, hts (.instanceMethod yX5_init) (by decide +kernel)⟩ ⟨mPc_fb, mPc_go hC hHf hS hPc hDc hFc⟩ rfl rfl hl.1 rfl (lv_room (Nat.le_of_ble_eq_true rfl)) dX1_init_18 ⟨Nat.le_of_ble_eq_true rfl, Nat.le_of_ble_eq_true rfl⟩) hS (fun q9 _ h9 => hFc q9 h9) hFc (fun u1 t H locs ht hvm hw_r2 hB hz1 hk1 hS => ?_)
  obtain ⟨hP1, hD1⟩ := hB
  rw [ht] at hP1
  obtain ⟨hP, hD⟩ := va_join (wr := [(q, .inr (4, [.ref q8, .null, .int 0, .int 0, .int 0])), (q8, .inl (k 0, 768, .inl (fun _ => 0)))]) (w1 := [(q14, .inr (8, [.ref (u1 0), .int 1, .ref (u1 1)])), ((u1 0), .inl (k 1, 768, .inr (.inl (fun _ => 0))))]) hP hD [2] [0, 1] rfl rfl (by decide) (by decide) hk1 hFc hP1 hD1
  have hP : va_P D vwCl [(q, .inr (4, [.ref q8, .null, .int 0, .int 0, .int 0])), (q8, .inl (k 0, 768, .inl (fun _ => 0))), (q14, .inr (8, [.ref (u1 0), .int 1, .ref (u1 1)])), ((u1 0), .inl (k 1, 768, .inr (.inl (fun _ => 0))))] H := hP
  have hD : va_D A [(q, .inr (4, [.ref q8, .null, .int 0, .int 0, .int 0])), (q8, .inl (k 0, 768, .inl (fun _ => 0))), (q14, .inr (8, [.ref (u1 0), .int 1, .ref (u1 1)])), ((u1 0), .inl (k 1, 768, .inr (.inl (fun _ => 0))))] := hD
  refine va_putF (D := D) (ci := 4) (v := .ref q14) (ty := .object "Triplegarth$Proofs") (C := RX1) (T := TX1) (N := 5) hx hb hts (by decide +kernel) tyX1 tyX1_ok nmX1 hown hC.1 hP hD hS 0 rfl rfl 1 (by decide) (hts (.fieldLink RX1 18 "Triplegarth$Graph" "proofs" "LTriplegarth$Proofs;") (by decide +kernel)) (fun _ h9 => h9) rfl hin rfl (by decide +kernel) rfl rfl (Nat.le_of_ble_eq_true rfl) dX1_init_21 (fun H locs hP hD hS => ?_)
  have hP : va_P D vwCl [(q, .inr (4, [.ref q8, .ref q14, .int 0, .int 0, .int 0])), (q8, .inl (k 0, 768, .inl (fun _ => 0))), (q14, .inr (8, [.ref (u1 0), .int 1, .ref (u1 1)])), ((u1 0), .inl (k 1, 768, .inr (.inl (fun _ => 0))))] H := hP
  have hD : va_D A [(q, .inr (4, [.ref q8, .ref q14, .int 0, .int 0, .int 0])), (q8, .inl (k 0, 768, .inl (fun _ => 0))), (q14, .inr (8, [.ref (u1 0), .int 1, .ref (u1 1)])), ((u1 0), .inl (k 1, 768, .inr (.inl (fun _ => 0))))] := hD
  refine lv_aload_n hx hb dX1_init_24 rfl (lv_at hl 0 rfl) ?_
  refine lv_iconst (v := 0) hx hb dX1_init_25 (by decide) ?_
  refine va_put (D := D) (ci := 4) (v := .int 0) (ty := .int) (C := RX1) (T := TX1) (N := 5) hx hb hts (by decide +kernel) tyX1 tyX1_ok nmX1 hown hC.1 hP hD hS 0 rfl rfl 2 (by decide) (hts (.fieldLink RX1 22 "Triplegarth$Graph" "count" "I") (by decide +kernel)) (fun _ h9 => h9) rfl (by decide +kernel) rfl rfl (Nat.le_of_ble_eq_true rfl) dX1_init_26 (fun H locs hP hD hS => ?_)
  have hP : va_P D vwCl [(q, .inr (4, [.ref q8, .ref q14, .int 0, .int 0, .int 0])), (q8, .inl (k 0, 768, .inl (fun _ => 0))), (q14, .inr (8, [.ref (u1 0), .int 1, .ref (u1 1)])), ((u1 0), .inl (k 1, 768, .inr (.inl (fun _ => 0))))] H := hP
  have hD : va_D A [(q, .inr (4, [.ref q8, .ref q14, .int 0, .int 0, .int 0])), (q8, .inl (k 0, 768, .inl (fun _ => 0))), (q14, .inr (8, [.ref (u1 0), .int 1, .ref (u1 1)])), ((u1 0), .inl (k 1, 768, .inr (.inl (fun _ => 0))))] := hD
  refine lv_aload_n hx hb dX1_init_29 rfl (lv_at hl 0 rfl) ?_
  refine lv_iconst (v := 0) hx hb dX1_init_30 (by decide) ?_
  refine va_put (D := D) (ci := 4) (v := .int 0) (ty := .boolean) (C := RX1) (T := TX1) (N := 5) hx hb hts (by decide +kernel) tyX1 tyX1_ok nmX1 hown hC.1 hP hD hS 0 rfl rfl 3 (by decide) (hts (.fieldLink RX1 26 "Triplegarth$Graph" "isClosed" "Z") (by decide +kernel)) (fun _ h9 => h9) rfl (by decide +kernel) rfl rfl (Nat.le_of_ble_eq_true rfl) dX1_init_31 (fun H locs hP hD hS => ?_)
  have hP : va_P D vwCl [(q, .inr (4, [.ref q8, .ref q14, .int 0, .int 0, .int 0])), (q8, .inl (k 0, 768, .inl (fun _ => 0))), (q14, .inr (8, [.ref (u1 0), .int 1, .ref (u1 1)])), ((u1 0), .inl (k 1, 768, .inr (.inl (fun _ => 0))))] H := hP
  have hD : va_D A [(q, .inr (4, [.ref q8, .ref q14, .int 0, .int 0, .int 0])), (q8, .inl (k 0, 768, .inl (fun _ => 0))), (q14, .inr (8, [.ref (u1 0), .int 1, .ref (u1 1)])), ((u1 0), .inl (k 1, 768, .inr (.inl (fun _ => 0))))] := hD
  refine lv_aload_n hx hb dX1_init_34 rfl (lv_at hl 0 rfl) ?_
  refine lv_iconst (v := 0) hx hb dX1_init_35 (by decide) ?_
  refine va_put (D := D) (ci := 4) (v := .int 0) (ty := .boolean) (C := RX1) (T := TX1) (N := 5) hx hb hts (by decide +kernel) tyX1 tyX1_ok nmX1 hown hC.1 hP hD hS 0 rfl rfl 4 (by decide) (hts (.fieldLink RX1 30 "Triplegarth$Graph" "isSeenEntailed" "Z") (by decide +kernel)) (fun _ h9 => h9) rfl (by decide +kernel) rfl rfl (Nat.le_of_ble_eq_true rfl) dX1_init_36 (fun H locs hP hD hS => ?_)
  have hP : va_P D vwCl [(q, .inr (4, [.ref q8, .ref q14, .int 0, .int 0, .int 0])), (q8, .inl (k 0, 768, .inl (fun _ => 0))), (q14, .inr (8, [.ref (u1 0), .int 1, .ref (u1 1)])), ((u1 0), .inl (k 1, 768, .inr (.inl (fun _ => 0))))] H := hP
  have hD : va_D A [(q, .inr (4, [.ref q8, .ref q14, .int 0, .int 0, .int 0])), (q8, .inl (k 0, 768, .inl (fun _ => 0))), (q14, .inr (8, [.ref (u1 0), .int 1, .ref (u1 1)])), ((u1 0), .inl (k 1, 768, .inr (.inl (fun _ => 0))))] := hD
  exact W.vret hx hb hr (fun t ht hW => ⟨⟨(fun i => [q8, q14, u1 0, u1 1].getD i 0), rfl, trivial, ⟨by rw [ht]; exact hP.sub [0, 1, 2, 3] rfl, hD.sub [0, 1, 2, 3] (by decide) rfl⟩⟩, hS.F ht⟩) hS.2.2 dX1_init_39

set_option maxHeartbeats 4000000 in
set_option maxRecDepth 100000 in
theorem k_X6_init_X4 (l : Launch) (D : va_G) (k : Nat → ClassId) (e0 : Nat) (sz : Nat) (q : Nat) : Met l yX6_init wsX6_init ({ frames := 1, cells := 2, slots := 4394, locals := 32 }) (mPc D k e0 sz [.ref q] [(q, .inr (7, [.null, .null, .null, .int 0, .int 0, .int 0]))]) (va_Qv (fun (u : Nat → Nat) => True) (fun u t => va_P D vwCl [(q, .inr (7, [.ref (u 0), .ref (u 1), .null, .int 0, .int 0, .int 0]))] t.heap ∧ va_D (va_A [(q, .inr (7, [.null, .null, .null, .int 0, .int 0, .int 0]))] sz) [(q, .inr (7, [.ref (u 0), .ref (u 1), .null, .int 0, .int 0, .int 0]))]) (va_A [(q, .inr (7, [.null, .null, .null, .int 0, .int 0, .int 0]))] sz)) 2 4394 (va_A [(q, .inr (7, [.null, .null, .null, .int 0, .int 0, .int 0]))] sz) := by
  refine Met.ofW (cc := cX6_init) (maxL := 1) (ret := none) (by decide) rfl ?_
  intro p e s m args below meth c s₁ B hml hv
  obtain ⟨rfl, rfl, hP, hC, hD0, hHf⟩ := hv
  have hx := B.exec
  have hb := B.bytes
  have hr := B.returns
  have hts := atoms_spec (ws := wsX6_init) B.pre
  have hown : s.vm.findClass RX6 = some m.cls := findClass_of_methodNamed B.named
  have hlocks := B.notSynchronized
  have hin : meth.name = "<init>" := (name_of_methodNamed B.named B.method).1
  have hD := hD0.self (sz := s.heap.size)
  generalize hAe : va_A [(q, .inr (7, [.null, .null, .null, .int 0, .int 0, .int 0]))] s.heap.size = A at hD hHf ⊢
  have hA : ∀ q : Nat, s.heap.size ≤ q → A q := fun q h => by rw [← hAe]; exact Or.inr h
  have hS : va_S A s.heap s.heap [] := va_S.rf
  refine w_entry (Nat.le_of_ble_eq_true rfl) (fun ls hl => ?_)
  have hl : lv_has ls 1 [(0, .ref q)] := hl
  refine lv_aload_n hx hb dX6_init_0 rfl (lv_at hl 0 rfl) ?_
  refine W.objInit hx hb hown (hts (.methodLink RX6 3 objectInit) (by decide +kernel)) (hts (.instanceMethod objectInit) (by decide +kernel)) (hts (.code objectInit ⟨#[0xb1]⟩ 1 none) (by decide +kernel)) rfl (by rw [hml]; exact hl.1) rfl dX6_init_1 (Nat.le_of_ble_eq_true rfl) (Nat.le_of_ble_eq_true rfl) ?_
  refine W.eq (g2 := F0 m 4 ls []) rfl ?_
  refine lv_aload_n hx hb dX6_init_4 rfl (lv_at hl 0 rfl) ?_
  refine lv_sipush (v := 2197) hx hb dX6_init_5 (by decide) ?_
  refine w_newa (atype := .int) hx hb (hts (.arrayClass .int) (by decide +kernel)) (ty := .int) rfl 2 rfl hC.1 hP hD hS hA (a0 := (2197, .inl (fun _ => 0))) (N' := 2197) (fun _ => rfl) (by decide) (by decide) (Nat.le_of_ble_eq_true rfl) (Nat.le_of_ble_eq_true rfl) (Nat.le_of_ble_eq_true rfl) dX6_init_8 (fun q8 H hP hD hS => ?_)
  have hP : va_P D vwCl [(q, .inr (7, [.null, .null, .null, .int 0, .int 0, .int 0])), (q8, .inl (k 2, 2197, .inl (fun _ => 0)))] H := hP
  have hD : va_D A [(q, .inr (7, [.null, .null, .null, .int 0, .int 0, .int 0])), (q8, .inl (k 2, 2197, .inl (fun _ => 0)))] := hD
  refine va_putF (D := D) (ci := 7) (v := .ref q8) (ty := .array .int) (C := RX4) (T := TX4) (N := 6) hx hb hts (by decide +kernel) tyX4 tyX4_ok nmX4 hown hC.1 hP hD hS 0 rfl rfl 0 (by decide) (hts (.fieldLink RX6 11 "Triplegarth$Query" "often" "[I") (by decide +kernel)) (fun _ h9 => h9) rfl hin rfl (by decide +kernel) rfl rfl (Nat.le_of_ble_eq_true rfl) dX6_init_10 (fun H locs hP hD hS => ?_)
  have hP : va_P D vwCl [(q, .inr (7, [.ref q8, .null, .null, .int 0, .int 0, .int 0])), (q8, .inl (k 2, 2197, .inl (fun _ => 0)))] H := hP
  have hD : va_D A [(q, .inr (7, [.ref q8, .null, .null, .int 0, .int 0, .int 0])), (q8, .inl (k 2, 2197, .inl (fun _ => 0)))] := hD
  refine lv_aload_n hx hb dX6_init_13 rfl (lv_at hl 0 rfl) ?_
  refine lv_sipush (v := 2197) hx hb dX6_init_14 (by decide) ?_
  refine w_newa (atype := .int) hx hb (hts (.arrayClass .int) (by decide +kernel)) (ty := .int) rfl 2 rfl hC.1 hP hD hS hA (a0 := (2197, .inl (fun _ => 0))) (N' := 2197) (fun _ => rfl) (by decide) (by decide) (Nat.le_of_ble_eq_true rfl) (Nat.le_of_ble_eq_true rfl) (Nat.le_of_ble_eq_true rfl) dX6_init_17 (fun q17 H hP hD hS => ?_)
  have hP : va_P D vwCl [(q, .inr (7, [.ref q8, .null, .null, .int 0, .int 0, .int 0])), (q8, .inl (k 2, 2197, .inl (fun _ => 0))), (q17, .inl (k 2, 2197, .inl (fun _ => 0)))] H := hP
  have hD : va_D A [(q, .inr (7, [.ref q8, .null, .null, .int 0, .int 0, .int 0])), (q8, .inl (k 2, 2197, .inl (fun _ => 0))), (q17, .inl (k 2, 2197, .inl (fun _ => 0)))] := hD
  refine va_putF (D := D) (ci := 7) (v := .ref q17) (ty := .array .int) (C := RX4) (T := TX4) (N := 6) hx hb hts (by decide +kernel) tyX4 tyX4_ok nmX4 hown hC.1 hP hD hS 0 rfl rfl 1 (by decide) (hts (.fieldLink RX6 17 "Triplegarth$Query" "again" "[I") (by decide +kernel)) (fun _ h9 => h9) rfl hin rfl (by decide +kernel) rfl rfl (Nat.le_of_ble_eq_true rfl) dX6_init_19 (fun H locs hP hD hS => ?_)
  have hP : va_P D vwCl [(q, .inr (7, [.ref q8, .ref q17, .null, .int 0, .int 0, .int 0])), (q8, .inl (k 2, 2197, .inl (fun _ => 0))), (q17, .inl (k 2, 2197, .inl (fun _ => 0)))] H := hP
  have hD : va_D A [(q, .inr (7, [.ref q8, .ref q17, .null, .int 0, .int 0, .int 0])), (q8, .inl (k 2, 2197, .inl (fun _ => 0))), (q17, .inl (k 2, 2197, .inl (fun _ => 0)))] := hD
  exact W.vret hx hb hr (fun t ht hW => ⟨⟨(fun i => [q8, q17].getD i 0), rfl, trivial, ⟨by rw [ht]; exact hP.sub [0] rfl, hD.sub [0] (by decide) rfl⟩⟩, hS.F ht⟩) hS.2.2 dX6_init_22

set_option maxHeartbeats 4000000 in
set_option maxRecDepth 100000 in
theorem k_X6_init_X3 (l : Launch) (D : va_G) (k : Nat → ClassId) (e0 : Nat) (sz : Nat) (q : Nat) : Met l yX6_init wsX6_init ({ frames := 1, cells := 2, slots := 4394, locals := 32 }) (mPc D k e0 sz [.ref q] [(q, .inr (6, [.null, .null, .null, .int 0, .int 0, .int 0, .int 0, .null]))]) (va_Qv (fun (u : Nat → Nat) => True) (fun u t => va_P D vwCl [(q, .inr (6, [.ref (u 0), .ref (u 1), .null, .int 0, .int 0, .int 0, .int 0, .null]))] t.heap ∧ va_D (va_A [(q, .inr (6, [.null, .null, .null, .int 0, .int 0, .int 0, .int 0, .null]))] sz) [(q, .inr (6, [.ref (u 0), .ref (u 1), .null, .int 0, .int 0, .int 0, .int 0, .null]))]) (va_A [(q, .inr (6, [.null, .null, .null, .int 0, .int 0, .int 0, .int 0, .null]))] sz)) 2 4394 (va_A [(q, .inr (6, [.null, .null, .null, .int 0, .int 0, .int 0, .int 0, .null]))] sz) := by
  refine Met.ofW (cc := cX6_init) (maxL := 1) (ret := none) (by decide) rfl ?_
  intro p e s m args below meth c s₁ B hml hv
  obtain ⟨rfl, rfl, hP, hC, hD0, hHf⟩ := hv
  have hx := B.exec
  have hb := B.bytes
  have hr := B.returns
  have hts := atoms_spec (ws := wsX6_init) B.pre
  have hown : s.vm.findClass RX6 = some m.cls := findClass_of_methodNamed B.named
  have hlocks := B.notSynchronized
  have hin : meth.name = "<init>" := (name_of_methodNamed B.named B.method).1
  have hD := hD0.self (sz := s.heap.size)
  generalize hAe : va_A [(q, .inr (6, [.null, .null, .null, .int 0, .int 0, .int 0, .int 0, .null]))] s.heap.size = A at hD hHf ⊢
  have hA : ∀ q : Nat, s.heap.size ≤ q → A q := fun q h => by rw [← hAe]; exact Or.inr h
  have hS : va_S A s.heap s.heap [] := va_S.rf
  refine w_entry (Nat.le_of_ble_eq_true rfl) (fun ls hl => ?_)
  have hl : lv_has ls 1 [(0, .ref q)] := hl
  refine lv_aload_n hx hb dX6_init_0 rfl (lv_at hl 0 rfl) ?_
  refine W.objInit hx hb hown (hts (.methodLink RX6 3 objectInit) (by decide +kernel)) (hts (.instanceMethod objectInit) (by decide +kernel)) (hts (.code objectInit ⟨#[0xb1]⟩ 1 none) (by decide +kernel)) rfl (by rw [hml]; exact hl.1) rfl dX6_init_1 (Nat.le_of_ble_eq_true rfl) (Nat.le_of_ble_eq_true rfl) ?_
  refine W.eq (g2 := F0 m 4 ls []) rfl ?_
  refine lv_aload_n hx hb dX6_init_4 rfl (lv_at hl 0 rfl) ?_
  refine lv_sipush (v := 2197) hx hb dX6_init_5 (by decide) ?_
  refine w_newa (atype := .int) hx hb (hts (.arrayClass .int) (by decide +kernel)) (ty := .int) rfl 2 rfl hC.1 hP hD hS hA (a0 := (2197, .inl (fun _ => 0))) (N' := 2197) (fun _ => rfl) (by decide) (by decide) (Nat.le_of_ble_eq_true rfl) (Nat.le_of_ble_eq_true rfl) (Nat.le_of_ble_eq_true rfl) dX6_init_8 (fun q8 H hP hD hS => ?_)
  have hP : va_P D vwCl [(q, .inr (6, [.null, .null, .null, .int 0, .int 0, .int 0, .int 0, .null])), (q8, .inl (k 2, 2197, .inl (fun _ => 0)))] H := hP
  have hD : va_D A [(q, .inr (6, [.null, .null, .null, .int 0, .int 0, .int 0, .int 0, .null])), (q8, .inl (k 2, 2197, .inl (fun _ => 0)))] := hD
  refine va_putF (D := D) (ci := 6) (v := .ref q8) (ty := .array .int) (C := RX3) (T := TX3) (N := 8) hx hb hts (by decide +kernel) tyX3 tyX3_ok nmX3 hown hC.1 hP hD hS 0 rfl rfl 0 (by decide) (hts (.fieldLink RX6 11 "Triplegarth$Query" "often" "[I") (by decide +kernel)) (fun _ h9 => h9) rfl hin rfl (by decide +kernel) rfl rfl (Nat.le_of_ble_eq_true rfl) dX6_init_10 (fun H locs hP hD hS => ?_)
  have hP : va_P D vwCl [(q, .inr (6, [.ref q8, .null, .null, .int 0, .int 0, .int 0, .int 0, .null])), (q8, .inl (k 2, 2197, .inl (fun _ => 0)))] H := hP
  have hD : va_D A [(q, .inr (6, [.ref q8, .null, .null, .int 0, .int 0, .int 0, .int 0, .null])), (q8, .inl (k 2, 2197, .inl (fun _ => 0)))] := hD
  refine lv_aload_n hx hb dX6_init_13 rfl (lv_at hl 0 rfl) ?_
  refine lv_sipush (v := 2197) hx hb dX6_init_14 (by decide) ?_
  refine w_newa (atype := .int) hx hb (hts (.arrayClass .int) (by decide +kernel)) (ty := .int) rfl 2 rfl hC.1 hP hD hS hA (a0 := (2197, .inl (fun _ => 0))) (N' := 2197) (fun _ => rfl) (by decide) (by decide) (Nat.le_of_ble_eq_true rfl) (Nat.le_of_ble_eq_true rfl) (Nat.le_of_ble_eq_true rfl) dX6_init_17 (fun q17 H hP hD hS => ?_)
  have hP : va_P D vwCl [(q, .inr (6, [.ref q8, .null, .null, .int 0, .int 0, .int 0, .int 0, .null])), (q8, .inl (k 2, 2197, .inl (fun _ => 0))), (q17, .inl (k 2, 2197, .inl (fun _ => 0)))] H := hP
  have hD : va_D A [(q, .inr (6, [.ref q8, .null, .null, .int 0, .int 0, .int 0, .int 0, .null])), (q8, .inl (k 2, 2197, .inl (fun _ => 0))), (q17, .inl (k 2, 2197, .inl (fun _ => 0)))] := hD
  refine va_putF (D := D) (ci := 6) (v := .ref q17) (ty := .array .int) (C := RX3) (T := TX3) (N := 8) hx hb hts (by decide +kernel) tyX3 tyX3_ok nmX3 hown hC.1 hP hD hS 0 rfl rfl 1 (by decide) (hts (.fieldLink RX6 17 "Triplegarth$Query" "again" "[I") (by decide +kernel)) (fun _ h9 => h9) rfl hin rfl (by decide +kernel) rfl rfl (Nat.le_of_ble_eq_true rfl) dX6_init_19 (fun H locs hP hD hS => ?_)
  have hP : va_P D vwCl [(q, .inr (6, [.ref q8, .ref q17, .null, .int 0, .int 0, .int 0, .int 0, .null])), (q8, .inl (k 2, 2197, .inl (fun _ => 0))), (q17, .inl (k 2, 2197, .inl (fun _ => 0)))] H := hP
  have hD : va_D A [(q, .inr (6, [.ref q8, .ref q17, .null, .int 0, .int 0, .int 0, .int 0, .null])), (q8, .inl (k 2, 2197, .inl (fun _ => 0))), (q17, .inl (k 2, 2197, .inl (fun _ => 0)))] := hD
  exact W.vret hx hb hr (fun t ht hW => ⟨⟨(fun i => [q8, q17].getD i 0), rfl, trivial, ⟨by rw [ht]; exact hP.sub [0] rfl, hD.sub [0] (by decide) rfl⟩⟩, hS.F ht⟩) hS.2.2 dX6_init_22

set_option maxHeartbeats 4000000 in
set_option maxRecDepth 100000 in
theorem k_X4_init (l : Launch) (D : va_G) (k : Nat → ClassId) (e0 : Nat) (sz : Nat) (q g : Nat) (x y z : Int32) : Met l yX4_init wsX4_init ({ frames := 2, cells := 2, slots := 4394, locals := 52 }) (mPc D k e0 sz [.ref q, .ref g, .int x, .int y, .int z] [(q, .inr (7, [.null, .null, .null, .int 0, .int 0, .int 0]))]) (va_Qv (fun (u : List Value) => True) (fun u t => va_P D vwCl [(q, .inr (7, u))] t.heap ∧ va_D (va_A [(q, .inr (7, [.null, .null, .null, .int 0, .int 0, .int 0]))] sz) [(q, .inr (7, u))]) (va_A [(q, .inr (7, [.null, .null, .null, .int 0, .int 0, .int 0]))] sz)) 2 4394 (va_A [(q, .inr (7, [.null, .null, .null, .int 0, .int 0, .int 0]))] sz) := by
  refine Met.ofW (cc := cX4_init) (maxL := 5) (ret := none) (by decide) rfl ?_
  intro p e s m args below meth c s₁ B hml hv
  obtain ⟨rfl, rfl, hP, hC, hD0, hHf⟩ := hv
  have hx := B.exec
  have hb := B.bytes
  have hr := B.returns
  have hts := atoms_spec (ws := wsX4_init) B.pre
  have hown : s.vm.findClass RX4 = some m.cls := findClass_of_methodNamed B.named
  have hlocks := B.notSynchronized
  have hin : meth.name = "<init>" := (name_of_methodNamed B.named B.method).1
  have hD := hD0.self (sz := s.heap.size)
  generalize hAe : va_A [(q, .inr (7, [.null, .null, .null, .int 0, .int 0, .int 0]))] s.heap.size = A at hD hHf ⊢
  have hA : ∀ q : Nat, s.heap.size ≤ q → A q := fun q h => by rw [← hAe]; exact Or.inr h
  have hS : va_S A s.heap s.heap [] := va_S.rf
  refine w_entry (Nat.le_of_ble_eq_true rfl) (fun ls hl => ?_)
  have hl : lv_has ls 5 [(0, .ref q), (1, .ref g), (2, .int x), (3, .int y), (4, .int z)] := hl
  refine lv_aload_n hx hb dX4_init_0 rfl (lv_at hl 0 rfl) ?_
  have hPc := hP.sub (ws' := [(q, .inr (7, [.null, .null, .null, .int 0, .int 0, .int 0]))]) [0] rfl
  have hDc := hD.sub (ws' := [(q, .inr (7, [.null, .null, .null, .int 0, .int 0, .int 0]))]) [0] (by decide) rfl
  have hFc := va_free (wc := [(q, .inr (7, [.null, .null, .null, .int 0, .int 0, .int 0]))]) hD hS hA [0] rfl
  refine va_callv (va_runIN (As := []) (rest := []) ⟨hx, hb, hml, hown, hts⟩ (k_X6_init_X4 l D k e0 s.heap.size q) ⟨va_cnB 0 hts gX4_init_X6_init_n3 rfl rfl rfl hC.2.1.2.2.2.2.1 (hts (.initialized RX6) (by decide +kernel)) (by decide +kernel) ⟨Nat.le_of_ble_eq_true rfl, Nat.le_of_ble_eq_true rfl⟩, rfl, hts (.instanceMethod yX6_init) (by decide +kernel)⟩ ⟨mPc_fb, mPc_go hC hHf hS hPc hDc hFc⟩ rfl rfl hl.1 rfl (lv_room (Nat.le_of_ble_eq_true rfl)) dX4_init_1 ⟨Nat.le_of_ble_eq_true rfl, Nat.le_of_ble_eq_true rfl⟩) hS (fun q9 _ h9 => hFc q9 h9) hFc (fun u1 t H locs ht hvm hw_r2 hB hz1 hk1 hS => ?_)
  obtain ⟨hP1, hD1⟩ := hB
  rw [ht] at hP1
  obtain ⟨hP, hD⟩ := va_join (wr := []) (w1 := [(q, .inr (7, [.ref (u1 0), .ref (u1 1), .null, .int 0, .int 0, .int 0]))]) hP hD [0] [] rfl rfl (by decide) (by decide) hk1 hFc hP1 hD1
  have hP : va_P D vwCl [(q, .inr (7, [.ref (u1 0), .ref (u1 1), .null, .int 0, .int 0, .int 0]))] H := hP
  have hD : va_D A [(q, .inr (7, [.ref (u1 0), .ref (u1 1), .null, .int 0, .int 0, .int 0]))] := hD
  refine lv_aload_n hx hb dX4_init_4 rfl (lv_at hl 0 rfl) ?_
  refine lv_aload_n hx hb dX4_init_5 rfl (lv_at hl 1 rfl) ?_
  refine va_putF (D := D) (ci := 7) (v := .ref g) (ty := .object "Triplegarth$Graph") (C := RX4) (T := TX4) (N := 6) hx hb hts (by decide +kernel) tyX4 tyX4_ok nmX4 hown hC.1 hP hD hS 0 rfl rfl 2 (by decide) (hts (.fieldLink RX4 9 "Triplegarth$Pattern" "graph" "LTriplegarth$Graph;") (by decide +kernel)) (fun _ h9 => h9) rfl hin rfl (by decide +kernel) rfl rfl (Nat.le_of_ble_eq_true rfl) dX4_init_6 (fun H locs hP hD hS => ?_)
  have hP : va_P D vwCl [(q, .inr (7, [.ref (u1 0), .ref (u1 1), .ref g, .int 0, .int 0, .int 0]))] H := hP
  have hD : va_D A [(q, .inr (7, [.ref (u1 0), .ref (u1 1), .ref g, .int 0, .int 0, .int 0]))] := hD
  refine lv_aload_n hx hb dX4_init_9 rfl (lv_at hl 0 rfl) ?_
  refine lv_iload_n hx hb dX4_init_10 rfl (lv_at hl 2 rfl) ?_
  refine va_putF (D := D) (ci := 7) (v := .int x) (ty := .int) (C := RX4) (T := TX4) (N := 6) hx hb hts (by decide +kernel) tyX4 tyX4_ok nmX4 hown hC.1 hP hD hS 0 rfl rfl 3 (by decide) (hts (.fieldLink RX4 15 "Triplegarth$Pattern" "subject" "I") (by decide +kernel)) (fun _ h9 => h9) rfl hin rfl (by decide +kernel) rfl rfl (Nat.le_of_ble_eq_true rfl) dX4_init_11 (fun H locs hP hD hS => ?_)
  have hP : va_P D vwCl [(q, .inr (7, [.ref (u1 0), .ref (u1 1), .ref g, .int x, .int 0, .int 0]))] H := hP
  have hD : va_D A [(q, .inr (7, [.ref (u1 0), .ref (u1 1), .ref g, .int x, .int 0, .int 0]))] := hD
  refine lv_aload_n hx hb dX4_init_14 rfl (lv_at hl 0 rfl) ?_
  refine lv_iload_n hx hb dX4_init_15 rfl (lv_at hl 3 rfl) ?_
  refine va_putF (D := D) (ci := 7) (v := .int y) (ty := .int) (C := RX4) (T := TX4) (N := 6) hx hb hts (by decide +kernel) tyX4 tyX4_ok nmX4 hown hC.1 hP hD hS 0 rfl rfl 4 (by decide) (hts (.fieldLink RX4 19 "Triplegarth$Pattern" "predicate" "I") (by decide +kernel)) (fun _ h9 => h9) rfl hin rfl (by decide +kernel) rfl rfl (Nat.le_of_ble_eq_true rfl) dX4_init_16 (fun H locs hP hD hS => ?_)
  have hP : va_P D vwCl [(q, .inr (7, [.ref (u1 0), .ref (u1 1), .ref g, .int x, .int y, .int 0]))] H := hP
  have hD : va_D A [(q, .inr (7, [.ref (u1 0), .ref (u1 1), .ref g, .int x, .int y, .int 0]))] := hD
  refine lv_aload_n hx hb dX4_init_19 rfl (lv_at hl 0 rfl) ?_
  refine lv_iload hx hb dX4_init_20 (lv_at hl 4 rfl) ?_
  refine va_putF (D := D) (ci := 7) (v := .int z) (ty := .int) (C := RX4) (T := TX4) (N := 6) hx hb hts (by decide +kernel) tyX4 tyX4_ok nmX4 hown hC.1 hP hD hS 0 rfl rfl 5 (by decide) (hts (.fieldLink RX4 22 "Triplegarth$Pattern" "object" "I") (by decide +kernel)) (fun _ h9 => h9) rfl hin rfl (by decide +kernel) rfl rfl (Nat.le_of_ble_eq_true rfl) dX4_init_22 (fun H locs hP hD hS => ?_)
  have hP : va_P D vwCl [(q, .inr (7, [.ref (u1 0), .ref (u1 1), .ref g, .int x, .int y, .int z]))] H := hP
  have hD : va_D A [(q, .inr (7, [.ref (u1 0), .ref (u1 1), .ref g, .int x, .int y, .int z]))] := hD
  exact W.vret hx hb hr (fun t ht hW => ⟨⟨[.ref (u1 0), .ref (u1 1), .ref g, .int x, .int y, .int z], rfl, trivial, ⟨by rw [ht]; exact hP.sub [0] rfl, hD.sub [0] (by decide) rfl⟩⟩, hS.F ht⟩) hS.2.2 dX4_init_25

set_option maxHeartbeats 4000000 in
set_option maxRecDepth 100000 in
theorem k_X3_init (l : Launch) (D : va_G) (k : Nat → ClassId) (e0 : Nat) (sz : Nat) (q g : Nat) (x y z b : Int32) (hb01 : b = 0 ∨ b = 1) : Met l yX3_init wsX3_init ({ frames := 2, cells := 3, slots := 4402, locals := 52 }) (mPc D k e0 sz [.ref q, .ref g, .int x, .int y, .int z, .int b] [(q, .inr (6, [.null, .null, .null, .int 0, .int 0, .int 0, .int 0, .null]))]) (va_Qv (fun (u : List Value) => True) (fun u t => va_P D vwCl [(q, .inr (6, u))] t.heap ∧ va_D (va_A [(q, .inr (6, [.null, .null, .null, .int 0, .int 0, .int 0, .int 0, .null]))] sz) [(q, .inr (6, u))]) (va_A [(q, .inr (6, [.null, .null, .null, .int 0, .int 0, .int 0, .int 0, .null]))] sz)) 3 4402 (va_A [(q, .inr (6, [.null, .null, .null, .int 0, .int 0, .int 0, .int 0, .null]))] sz) := by
  refine Met.ofW (cc := cX3_init) (maxL := 6) (ret := none) (by decide) rfl ?_
  intro p e s m args below meth c s₁ B hml hv
  obtain ⟨rfl, rfl, hP, hC, hD0, hHf⟩ := hv
  have hx := B.exec
  have hb := B.bytes
  have hr := B.returns
  have hts := atoms_spec (ws := wsX3_init) B.pre
  have hown : s.vm.findClass RX3 = some m.cls := findClass_of_methodNamed B.named
  have hlocks := B.notSynchronized
  have hin : meth.name = "<init>" := (name_of_methodNamed B.named B.method).1
  have hD := hD0.self (sz := s.heap.size)
  generalize hAe : va_A [(q, .inr (6, [.null, .null, .null, .int 0, .int 0, .int 0, .int 0, .null]))] s.heap.size = A at hD hHf ⊢
  have hA : ∀ q : Nat, s.heap.size ≤ q → A q := fun q h => by rw [← hAe]; exact Or.inr h
  have hS : va_S A s.heap s.heap [] := va_S.rf
  refine w_entry (Nat.le_of_ble_eq_true rfl) (fun ls hl => ?_)
  have hl : lv_has ls 6 [(0, .ref q), (1, .ref g), (2, .int x), (3, .int y), (4, .int z), (5, .int b)] := hl
  refine lv_aload_n hx hb dX3_init_0 rfl (lv_at hl 0 rfl) ?_
  have hPc := hP.sub (ws' := [(q, .inr (6, [.null, .null, .null, .int 0, .int 0, .int 0, .int 0, .null]))]) [0] rfl
  have hDc := hD.sub (ws' := [(q, .inr (6, [.null, .null, .null, .int 0, .int 0, .int 0, .int 0, .null]))]) [0] (by decide) rfl
  have hFc := va_free (wc := [(q, .inr (6, [.null, .null, .null, .int 0, .int 0, .int 0, .int 0, .null]))]) hD hS hA [0] rfl
  refine va_callv (va_runIN (As := []) (rest := []) ⟨hx, hb, hml, hown, hts⟩ (k_X6_init_X3 l D k e0 s.heap.size q) ⟨va_cnB 0 hts gX3_init_X6_init_n3 rfl rfl rfl hC.2.1.2.2.2.2.2 (hts (.initialized RX6) (by decide +kernel)) (by decide +kernel) ⟨Nat.le_of_ble_eq_true rfl, Nat.le_of_ble_eq_true rfl⟩, rfl, hts (.instanceMethod yX6_init) (by decide +kernel)⟩ ⟨mPc_fb, mPc_go hC hHf hS hPc hDc hFc⟩ rfl rfl hl.1 rfl (lv_room (Nat.le_of_ble_eq_true rfl)) dX3_init_1 ⟨Nat.le_of_ble_eq_true rfl, Nat.le_of_ble_eq_true rfl⟩) hS (fun q9 _ h9 => hFc q9 h9) hFc (fun u1 t H locs ht hvm hw_r2 hB hz1 hk1 hS => ?_)
  obtain ⟨hP1, hD1⟩ := hB
  rw [ht] at hP1
  obtain ⟨hP, hD⟩ := va_join (wr := []) (w1 := [(q, .inr (6, [.ref (u1 0), .ref (u1 1), .null, .int 0, .int 0, .int 0, .int 0, .null]))]) hP hD [0] [] rfl rfl (by decide) (by decide) hk1 hFc hP1 hD1
  have hP : va_P D vwCl [(q, .inr (6, [.ref (u1 0), .ref (u1 1), .null, .int 0, .int 0, .int 0, .int 0, .null]))] H := hP
  have hD : va_D A [(q, .inr (6, [.ref (u1 0), .ref (u1 1), .null, .int 0, .int 0, .int 0, .int 0, .null]))] := hD
  refine lv_aload_n hx hb dX3_init_4 rfl (lv_at hl 0 rfl) ?_
  refine lv_bipush (v := 8) hx hb dX3_init_5 (by decide) ?_
  refine w_newa (atype := .int) hx hb (hts (.arrayClass .int) (by decide +kernel)) (ty := .int) rfl 2 rfl hC.1 hP hD hS hA (a0 := (8, .inl (fun _ => 0))) (N' := 8) (fun _ => rfl) (by decide) (by decide) (Nat.le_of_ble_eq_true rfl) (Nat.le_of_ble_eq_true rfl) (Nat.le_of_ble_eq_true rfl) dX3_init_7 (fun q7 H hP hD hS => ?_)
  have hP : va_P D vwCl [(q, .inr (6, [.ref (u1 0), .ref (u1 1), .null, .int 0, .int 0, .int 0, .int 0, .null])), (q7, .inl (k 2, 8, .inl (fun _ => 0)))] H := hP
  have hD : va_D A [(q, .inr (6, [.ref (u1 0), .ref (u1 1), .null, .int 0, .int 0, .int 0, .int 0, .null])), (q7, .inl (k 2, 8, .inl (fun _ => 0)))] := hD
  refine va_putF (D := D) (ci := 6) (v := .ref q7) (ty := .array .int) (C := RX3) (T := TX3) (N := 8) hx hb hts (by decide +kernel) tyX3 tyX3_ok nmX3 hown hC.1 hP hD hS 0 rfl rfl 7 (by decide) (hts (.fieldLink RX3 9 "Triplegarth$Path" "ends" "[I") (by decide +kernel)) (fun _ h9 => h9) rfl hin rfl (by decide +kernel) rfl rfl (Nat.le_of_ble_eq_true rfl) dX3_init_9 (fun H locs hP hD hS => ?_)
  have hP : va_P D vwCl [(q, .inr (6, [.ref (u1 0), .ref (u1 1), .null, .int 0, .int 0, .int 0, .int 0, .ref q7])), (q7, .inl (k 2, 8, .inl (fun _ => 0)))] H := hP
  have hD : va_D A [(q, .inr (6, [.ref (u1 0), .ref (u1 1), .null, .int 0, .int 0, .int 0, .int 0, .ref q7])), (q7, .inl (k 2, 8, .inl (fun _ => 0)))] := hD
  refine lv_aload_n hx hb dX3_init_12 rfl (lv_at hl 0 rfl) ?_
  refine lv_aload_n hx hb dX3_init_13 rfl (lv_at hl 1 rfl) ?_
  refine va_putF (D := D) (ci := 6) (v := .ref g) (ty := .object "Triplegarth$Graph") (C := RX3) (T := TX3) (N := 8) hx hb hts (by decide +kernel) tyX3 tyX3_ok nmX3 hown hC.1 hP hD hS 0 rfl rfl 2 (by decide) (hts (.fieldLink RX3 15 "Triplegarth$Path" "graph" "LTriplegarth$Graph;") (by decide +kernel)) (fun _ h9 => h9) rfl hin rfl (by decide +kernel) rfl rfl (Nat.le_of_ble_eq_true rfl) dX3_init_14 (fun H locs hP hD hS => ?_)
  have hP : va_P D vwCl [(q, .inr (6, [.ref (u1 0), .ref (u1 1), .ref g, .int 0, .int 0, .int 0, .int 0, .ref q7])), (q7, .inl (k 2, 8, .inl (fun _ => 0)))] H := hP
  have hD : va_D A [(q, .inr (6, [.ref (u1 0), .ref (u1 1), .ref g, .int 0, .int 0, .int 0, .int 0, .ref q7])), (q7, .inl (k 2, 8, .inl (fun _ => 0)))] := hD
  refine lv_aload_n hx hb dX3_init_17 rfl (lv_at hl 0 rfl) ?_
  refine lv_iload_n hx hb dX3_init_18 rfl (lv_at hl 2 rfl) ?_
  refine va_putF (D := D) (ci := 6) (v := .int x) (ty := .int) (C := RX3) (T := TX3) (N := 8) hx hb hts (by decide +kernel) tyX3 tyX3_ok nmX3 hown hC.1 hP hD hS 0 rfl rfl 3 (by decide) (hts (.fieldLink RX3 19 "Triplegarth$Path" "subject" "I") (by decide +kernel)) (fun _ h9 => h9) rfl hin rfl (by decide +kernel) rfl rfl (Nat.le_of_ble_eq_true rfl) dX3_init_19 (fun H locs hP hD hS => ?_)
  have hP : va_P D vwCl [(q, .inr (6, [.ref (u1 0), .ref (u1 1), .ref g, .int x, .int 0, .int 0, .int 0, .ref q7])), (q7, .inl (k 2, 8, .inl (fun _ => 0)))] H := hP
  have hD : va_D A [(q, .inr (6, [.ref (u1 0), .ref (u1 1), .ref g, .int x, .int 0, .int 0, .int 0, .ref q7])), (q7, .inl (k 2, 8, .inl (fun _ => 0)))] := hD
  refine lv_aload_n hx hb dX3_init_22 rfl (lv_at hl 0 rfl) ?_
  refine lv_iload_n hx hb dX3_init_23 rfl (lv_at hl 3 rfl) ?_
  refine va_putF (D := D) (ci := 6) (v := .int y) (ty := .int) (C := RX3) (T := TX3) (N := 8) hx hb hts (by decide +kernel) tyX3 tyX3_ok nmX3 hown hC.1 hP hD hS 0 rfl rfl 4 (by decide) (hts (.fieldLink RX3 23 "Triplegarth$Path" "predicate" "I") (by decide +kernel)) (fun _ h9 => h9) rfl hin rfl (by decide +kernel) rfl rfl (Nat.le_of_ble_eq_true rfl) dX3_init_24 (fun H locs hP hD hS => ?_)
  have hP : va_P D vwCl [(q, .inr (6, [.ref (u1 0), .ref (u1 1), .ref g, .int x, .int y, .int 0, .int 0, .ref q7])), (q7, .inl (k 2, 8, .inl (fun _ => 0)))] H := hP
  have hD : va_D A [(q, .inr (6, [.ref (u1 0), .ref (u1 1), .ref g, .int x, .int y, .int 0, .int 0, .ref q7])), (q7, .inl (k 2, 8, .inl (fun _ => 0)))] := hD
  refine lv_aload_n hx hb dX3_init_27 rfl (lv_at hl 0 rfl) ?_
  refine lv_iload hx hb dX3_init_28 (lv_at hl 4 rfl) ?_
  refine va_putF (D := D) (ci := 6) (v := .int z) (ty := .int) (C := RX3) (T := TX3) (N := 8) hx hb hts (by decide +kernel) tyX3 tyX3_ok nmX3 hown hC.1 hP hD hS 0 rfl rfl 5 (by decide) (hts (.fieldLink RX3 26 "Triplegarth$Path" "object" "I") (by decide +kernel)) (fun _ h9 => h9) rfl hin rfl (by decide +kernel) rfl rfl (Nat.le_of_ble_eq_true rfl) dX3_init_30 (fun H locs hP hD hS => ?_)
  have hP : va_P D vwCl [(q, .inr (6, [.ref (u1 0), .ref (u1 1), .ref g, .int x, .int y, .int z, .int 0, .ref q7])), (q7, .inl (k 2, 8, .inl (fun _ => 0)))] H := hP
  have hD : va_D A [(q, .inr (6, [.ref (u1 0), .ref (u1 1), .ref g, .int x, .int y, .int z, .int 0, .ref q7])), (q7, .inl (k 2, 8, .inl (fun _ => 0)))] := hD
  refine lv_aload_n hx hb dX3_init_33 rfl (lv_at hl 0 rfl) ?_
  refine lv_iload hx hb dX3_init_34 (lv_at hl 5 rfl) ?_
  refine va_putF (D := D) (ci := 6) (v := .int b) (ty := .boolean) (C := RX3) (T := TX3) (N := 8) hx hb hts (by decide +kernel) tyX3 tyX3_ok nmX3 hown hC.1 hP hD hS 0 rfl rfl 6 (by decide) (hts (.fieldLink RX3 29 "Triplegarth$Path" "isAny" "Z") (by decide +kernel)) (fun _ h9 => h9) rfl hin rfl (by decide +kernel) (by rcases hb01 with rfl | rfl <;> rfl) (by rcases hb01 with rfl | rfl <;> rfl) (Nat.le_of_ble_eq_true rfl) dX3_init_36 (fun H locs hP hD hS => ?_)
  have hP : va_P D vwCl [(q, .inr (6, [.ref (u1 0), .ref (u1 1), .ref g, .int x, .int y, .int z, .int b, .ref q7])), (q7, .inl (k 2, 8, .inl (fun _ => 0)))] H := hP
  have hD : va_D A [(q, .inr (6, [.ref (u1 0), .ref (u1 1), .ref g, .int x, .int y, .int z, .int b, .ref q7])), (q7, .inl (k 2, 8, .inl (fun _ => 0)))] := hD
  exact W.vret hx hb hr (fun t ht hW => ⟨⟨[.ref (u1 0), .ref (u1 1), .ref g, .int x, .int y, .int z, .int b, .ref q7], rfl, trivial, ⟨by rw [ht]; exact hP.sub [0] rfl, hD.sub [0] (by decide) rfl⟩⟩, hS.F ht⟩) hS.2.2 dX3_init_39

set_option maxHeartbeats 4000000 in
set_option maxRecDepth 100000 in
theorem k_X8_init (l : Launch) (D : va_G) (k : Nat → ClassId) (e0 : Nat) (sz : Nat) (q : Nat) (kd x y z : Int32) (hkn : narrow .char (.int kd) = .int kd) (hkf : fits .char (.int kd) = true) : Met l yX8_init wsX8_init ({ frames := 1, cells := 0, slots := 0, locals := 32 }) (mPc D k e0 sz [.ref q, .int kd, .int x, .int y, .int z] [(q, .inr (9, [.int 0, .int 0, .int 0, .int 0]))]) (va_Qv (fun (u : List Value) => True) (fun u t => va_P D vwCl [(q, .inr (9, u))] t.heap ∧ va_D (va_A [(q, .inr (9, [.int 0, .int 0, .int 0, .int 0]))] sz) [(q, .inr (9, u))]) (va_A [(q, .inr (9, [.int 0, .int 0, .int 0, .int 0]))] sz)) 0 0 (va_A [(q, .inr (9, [.int 0, .int 0, .int 0, .int 0]))] sz) := by
  refine Met.ofW (cc := cX8_init) (maxL := 5) (ret := none) (by decide) rfl ?_
  intro p e s m args below meth c s₁ B hml hv
  obtain ⟨rfl, rfl, hP, hC, hD0, hHf⟩ := hv
  have hx := B.exec
  have hb := B.bytes
  have hr := B.returns
  have hts := atoms_spec (ws := wsX8_init) B.pre
  have hown : s.vm.findClass RX8 = some m.cls := findClass_of_methodNamed B.named
  have hlocks := B.notSynchronized
  have hin : meth.name = "<init>" := (name_of_methodNamed B.named B.method).1
  have hD := hD0.self (sz := s.heap.size)
  generalize hAe : va_A [(q, .inr (9, [.int 0, .int 0, .int 0, .int 0]))] s.heap.size = A at hD hHf ⊢
  have hA : ∀ q : Nat, s.heap.size ≤ q → A q := fun q h => by rw [← hAe]; exact Or.inr h
  have hS : va_S A s.heap s.heap [] := va_S.rf
  refine w_entry (Nat.le_of_ble_eq_true rfl) (fun ls hl => ?_)
  have hl : lv_has ls 5 [(0, .ref q), (1, .int kd), (2, .int x), (3, .int y), (4, .int z)] := hl
  refine lv_aload_n hx hb dX8_init_0 rfl (lv_at hl 0 rfl) ?_
  refine W.objInit hx hb hown (hts (.methodLink RX8 3 objectInit) (by decide +kernel)) (hts (.instanceMethod objectInit) (by decide +kernel)) (hts (.code objectInit ⟨#[0xb1]⟩ 1 none) (by decide +kernel)) rfl (by rw [hml]; exact hl.1) rfl dX8_init_1 (Nat.le_of_ble_eq_true rfl) (Nat.le_of_ble_eq_true rfl) ?_
  refine W.eq (g2 := F0 m 4 ls []) rfl ?_
  refine lv_aload_n hx hb dX8_init_4 rfl (lv_at hl 0 rfl) ?_
  refine lv_iload_n hx hb dX8_init_5 rfl (lv_at hl 1 rfl) ?_
  refine va_putF (D := D) (ci := 9) (v := .int kd) (ty := .char) (C := RX8) (T := TX8) (N := 4) hx hb hts (by decide +kernel) tyX8 tyX8_ok nmX8 hown hC.1 hP hD hS 0 rfl rfl 0 (by decide) (hts (.fieldLink RX8 9 "Triplegarth$Rule" "kind" "C") (by decide +kernel)) (fun _ h9 => h9) rfl hin rfl (by decide +kernel) hkn hkf (Nat.le_of_ble_eq_true rfl) dX8_init_6 (fun H locs hP hD hS => ?_)
  have hP : va_P D vwCl [(q, .inr (9, [.int kd, .int 0, .int 0, .int 0]))] H := hP
  have hD : va_D A [(q, .inr (9, [.int kd, .int 0, .int 0, .int 0]))] := hD
  refine lv_aload_n hx hb dX8_init_9 rfl (lv_at hl 0 rfl) ?_
  refine lv_iload_n hx hb dX8_init_10 rfl (lv_at hl 2 rfl) ?_
  refine va_putF (D := D) (ci := 9) (v := .int x) (ty := .int) (C := RX8) (T := TX8) (N := 4) hx hb hts (by decide +kernel) tyX8 tyX8_ok nmX8 hown hC.1 hP hD hS 0 rfl rfl 1 (by decide) (hts (.fieldLink RX8 15 "Triplegarth$Rule" "first" "I") (by decide +kernel)) (fun _ h9 => h9) rfl hin rfl (by decide +kernel) rfl rfl (Nat.le_of_ble_eq_true rfl) dX8_init_11 (fun H locs hP hD hS => ?_)
  have hP : va_P D vwCl [(q, .inr (9, [.int kd, .int x, .int 0, .int 0]))] H := hP
  have hD : va_D A [(q, .inr (9, [.int kd, .int x, .int 0, .int 0]))] := hD
  refine lv_aload_n hx hb dX8_init_14 rfl (lv_at hl 0 rfl) ?_
  refine lv_iload_n hx hb dX8_init_15 rfl (lv_at hl 1 rfl) ?_
  refine lv_bipush (v := 116) hx hb dX8_init_16 (by decide) ?_
  refine lv_icmp_ne (tgt := 25) hx hb dX8_init_18 (by decide) (fun c_18 => ?_) (fun c_18 => ?_)
  · have g_18 : ¬ kd.toInt = 116 := fun q9 => c_18 (Int32.toInt_inj.mp q9)
    refine lv_iload_n hx hb dX8_init_25 rfl (lv_at hl 3 rfl) ?_
    refine va_putF (D := D) (ci := 9) (v := .int y) (ty := .int) (C := RX8) (T := TX8) (N := 4) hx hb hts (by decide +kernel) tyX8 tyX8_ok nmX8 hown hC.1 hP hD hS 0 rfl rfl 2 (by decide) (hts (.fieldLink RX8 19 "Triplegarth$Rule" "second" "I") (by decide +kernel)) (fun _ h9 => h9) rfl hin rfl (by decide +kernel) rfl rfl (Nat.le_of_ble_eq_true rfl) dX8_init_26 (fun H locs hP hD hS => ?_)
    have hP : va_P D vwCl [(q, .inr (9, [.int kd, .int x, .int y, .int 0]))] H := hP
    have hD : va_D A [(q, .inr (9, [.int kd, .int x, .int y, .int 0]))] := hD
    refine lv_aload_n hx hb dX8_init_29 rfl (lv_at hl 0 rfl) ?_
    refine lv_iload_n hx hb dX8_init_30 rfl (lv_at hl 1 rfl) ?_
    refine lv_bipush (v := 116) hx hb dX8_init_31 (by decide) ?_
    refine lv_icmp_ne (tgt := 40) hx hb dX8_init_33 (by decide) (fun c_33 => ?_) (fun c_33 => ?_)
    · have g_33 : ¬ kd.toInt = 116 := fun q9 => c_33 (Int32.toInt_inj.mp q9)
      refine lv_iload hx hb dX8_init_40 (lv_at hl 4 rfl) ?_
      refine va_putF (D := D) (ci := 9) (v := .int z) (ty := .int) (C := RX8) (T := TX8) (N := 4) hx hb hts (by decide +kernel) tyX8 tyX8_ok nmX8 hown hC.1 hP hD hS 0 rfl rfl 3 (by decide) (hts (.fieldLink RX8 22 "Triplegarth$Rule" "third" "I") (by decide +kernel)) (fun _ h9 => h9) rfl hin rfl (by decide +kernel) rfl rfl (Nat.le_of_ble_eq_true rfl) dX8_init_42 (fun H locs hP hD hS => ?_)
      have hP : va_P D vwCl [(q, .inr (9, [.int kd, .int x, .int y, .int z]))] H := hP
      have hD : va_D A [(q, .inr (9, [.int kd, .int x, .int y, .int z]))] := hD
      exact W.vret hx hb hr (fun t ht hW => ⟨⟨[.int kd, .int x, .int y, .int z], rfl, trivial, ⟨by rw [ht]; exact hP.sub [0] rfl, hD.sub [0] (by decide) rfl⟩⟩, hS.F ht⟩) hS.2.2 dX8_init_45
    · have g_33 : kd.toInt = 116 := congrArg Int32.toInt c_33
      refine lv_iload_n hx hb dX8_init_36 rfl (lv_at hl 2 rfl) ?_
      refine lv_goto (tgt := 42) hx hb dX8_init_37 (by decide) ?_
      refine va_putF (D := D) (ci := 9) (v := .int x) (ty := .int) (C := RX8) (T := TX8) (N := 4) hx hb hts (by decide +kernel) tyX8 tyX8_ok nmX8 hown hC.1 hP hD hS 0 rfl rfl 3 (by decide) (hts (.fieldLink RX8 22 "Triplegarth$Rule" "third" "I") (by decide +kernel)) (fun _ h9 => h9) rfl hin rfl (by decide +kernel) rfl rfl (Nat.le_of_ble_eq_true rfl) dX8_init_42 (fun H locs hP hD hS => ?_)
      have hP : va_P D vwCl [(q, .inr (9, [.int kd, .int x, .int y, .int x]))] H := hP
      have hD : va_D A [(q, .inr (9, [.int kd, .int x, .int y, .int x]))] := hD
      exact W.vret hx hb hr (fun t ht hW => ⟨⟨[.int kd, .int x, .int y, .int x], rfl, trivial, ⟨by rw [ht]; exact hP.sub [0] rfl, hD.sub [0] (by decide) rfl⟩⟩, hS.F ht⟩) hS.2.2 dX8_init_45
  · have g_18 : kd.toInt = 116 := congrArg Int32.toInt c_18
    refine lv_iload_n hx hb dX8_init_21 rfl (lv_at hl 2 rfl) ?_
    refine lv_goto (tgt := 26) hx hb dX8_init_22 (by decide) ?_
    refine va_putF (D := D) (ci := 9) (v := .int x) (ty := .int) (C := RX8) (T := TX8) (N := 4) hx hb hts (by decide +kernel) tyX8 tyX8_ok nmX8 hown hC.1 hP hD hS 0 rfl rfl 2 (by decide) (hts (.fieldLink RX8 19 "Triplegarth$Rule" "second" "I") (by decide +kernel)) (fun _ h9 => h9) rfl hin rfl (by decide +kernel) rfl rfl (Nat.le_of_ble_eq_true rfl) dX8_init_26 (fun H locs hP hD hS => ?_)
    have hP : va_P D vwCl [(q, .inr (9, [.int kd, .int x, .int x, .int 0]))] H := hP
    have hD : va_D A [(q, .inr (9, [.int kd, .int x, .int x, .int 0]))] := hD
    refine lv_aload_n hx hb dX8_init_29 rfl (lv_at hl 0 rfl) ?_
    refine lv_iload_n hx hb dX8_init_30 rfl (lv_at hl 1 rfl) ?_
    refine lv_bipush (v := 116) hx hb dX8_init_31 (by decide) ?_
    refine lv_icmp_ne (tgt := 40) hx hb dX8_init_33 (by decide) (fun c_33 => ?_) (fun c_33 => ?_)
    · have g_33 : ¬ kd.toInt = 116 := fun q9 => c_33 (Int32.toInt_inj.mp q9)
      refine lv_iload hx hb dX8_init_40 (lv_at hl 4 rfl) ?_
      refine va_putF (D := D) (ci := 9) (v := .int z) (ty := .int) (C := RX8) (T := TX8) (N := 4) hx hb hts (by decide +kernel) tyX8 tyX8_ok nmX8 hown hC.1 hP hD hS 0 rfl rfl 3 (by decide) (hts (.fieldLink RX8 22 "Triplegarth$Rule" "third" "I") (by decide +kernel)) (fun _ h9 => h9) rfl hin rfl (by decide +kernel) rfl rfl (Nat.le_of_ble_eq_true rfl) dX8_init_42 (fun H locs hP hD hS => ?_)
      have hP : va_P D vwCl [(q, .inr (9, [.int kd, .int x, .int x, .int z]))] H := hP
      have hD : va_D A [(q, .inr (9, [.int kd, .int x, .int x, .int z]))] := hD
      exact W.vret hx hb hr (fun t ht hW => ⟨⟨[.int kd, .int x, .int x, .int z], rfl, trivial, ⟨by rw [ht]; exact hP.sub [0] rfl, hD.sub [0] (by decide) rfl⟩⟩, hS.F ht⟩) hS.2.2 dX8_init_45
    · have g_33 : kd.toInt = 116 := congrArg Int32.toInt c_33
      refine lv_iload_n hx hb dX8_init_36 rfl (lv_at hl 2 rfl) ?_
      refine lv_goto (tgt := 42) hx hb dX8_init_37 (by decide) ?_
      refine va_putF (D := D) (ci := 9) (v := .int x) (ty := .int) (C := RX8) (T := TX8) (N := 4) hx hb hts (by decide +kernel) tyX8 tyX8_ok nmX8 hown hC.1 hP hD hS 0 rfl rfl 3 (by decide) (hts (.fieldLink RX8 22 "Triplegarth$Rule" "third" "I") (by decide +kernel)) (fun _ h9 => h9) rfl hin rfl (by decide +kernel) rfl rfl (Nat.le_of_ble_eq_true rfl) dX8_init_42 (fun H locs hP hD hS => ?_)
      have hP : va_P D vwCl [(q, .inr (9, [.int kd, .int x, .int x, .int x]))] H := hP
      have hD : va_D A [(q, .inr (9, [.int kd, .int x, .int x, .int x]))] := hD
      exact W.vret hx hb hr (fun t ht hW => ⟨⟨[.int kd, .int x, .int x, .int x], rfl, trivial, ⟨by rw [ht]; exact hP.sub [0] rfl, hD.sub [0] (by decide) rfl⟩⟩, hS.F ht⟩) hS.2.2 dX8_init_45

set_option maxHeartbeats 4000000 in
set_option maxRecDepth 100000 in
theorem k_X9_init (l : Launch) (D : va_G) (k : Nat → ClassId) (e0 : Nat) (sz : Nat) (q g : Nat) (v w x y : Int32) : Met l yX9_init wsX9_init ({ frames := 1, cells := 0, slots := 0, locals := 32 }) (mPc D k e0 sz [.ref q, .ref g, .int v, .int w, .int x, .int y] [(q, .inr (10, [.null, .int 0, .int 0, .int 0, .int 0]))]) (va_Qv (fun (u : List Value) => True) (fun u t => va_P D vwCl [(q, .inr (10, u))] t.heap ∧ va_D (va_A [(q, .inr (10, [.null, .int 0, .int 0, .int 0, .int 0]))] sz) [(q, .inr (10, u))]) (va_A [(q, .inr (10, [.null, .int 0, .int 0, .int 0, .int 0]))] sz)) 0 0 (va_A [(q, .inr (10, [.null, .int 0, .int 0, .int 0, .int 0]))] sz) := by
  refine Met.ofW (cc := cX9_init) (maxL := 6) (ret := none) (by decide) rfl ?_
  intro p e s m args below meth c s₁ B hml hv
  obtain ⟨rfl, rfl, hP, hC, hD0, hHf⟩ := hv
  have hx := B.exec
  have hb := B.bytes
  have hr := B.returns
  have hts := atoms_spec (ws := wsX9_init) B.pre
  have hown : s.vm.findClass RX9 = some m.cls := findClass_of_methodNamed B.named
  have hlocks := B.notSynchronized
  have hin : meth.name = "<init>" := (name_of_methodNamed B.named B.method).1
  have hD := hD0.self (sz := s.heap.size)
  generalize hAe : va_A [(q, .inr (10, [.null, .int 0, .int 0, .int 0, .int 0]))] s.heap.size = A at hD hHf ⊢
  have hA : ∀ q : Nat, s.heap.size ≤ q → A q := fun q h => by rw [← hAe]; exact Or.inr h
  have hS : va_S A s.heap s.heap [] := va_S.rf
  refine w_entry (Nat.le_of_ble_eq_true rfl) (fun ls hl => ?_)
  have hl : lv_has ls 6 [(0, .ref q), (1, .ref g), (2, .int v), (3, .int w), (4, .int x), (5, .int y)] := hl
  refine lv_aload_n hx hb dX9_init_0 rfl (lv_at hl 0 rfl) ?_
  refine W.objInit hx hb hown (hts (.methodLink RX9 1 objectInit) (by decide +kernel)) (hts (.instanceMethod objectInit) (by decide +kernel)) (hts (.code objectInit ⟨#[0xb1]⟩ 1 none) (by decide +kernel)) rfl (by rw [hml]; exact hl.1) rfl dX9_init_1 (Nat.le_of_ble_eq_true rfl) (Nat.le_of_ble_eq_true rfl) ?_
  refine W.eq (g2 := F0 m 4 ls []) rfl ?_
  refine lv_aload_n hx hb dX9_init_4 rfl (lv_at hl 0 rfl) ?_
  refine lv_aload_n hx hb dX9_init_5 rfl (lv_at hl 1 rfl) ?_
  refine va_putF (D := D) (ci := 10) (v := .ref g) (ty := .object "Triplegarth$Graph") (C := RX9) (T := TX9) (N := 5) hx hb hts (by decide +kernel) tyX9 tyX9_ok nmX9 hown hC.1 hP hD hS 0 rfl rfl 0 (by decide) (hts (.fieldLink RX9 7 "Triplegarth$Shape" "graph" "LTriplegarth$Graph;") (by decide +kernel)) (fun _ h9 => h9) rfl hin rfl (by decide +kernel) rfl rfl (Nat.le_of_ble_eq_true rfl) dX9_init_6 (fun H locs hP hD hS => ?_)
  have hP : va_P D vwCl [(q, .inr (10, [.ref g, .int 0, .int 0, .int 0, .int 0]))] H := hP
  have hD : va_D A [(q, .inr (10, [.ref g, .int 0, .int 0, .int 0, .int 0]))] := hD
  refine lv_aload_n hx hb dX9_init_9 rfl (lv_at hl 0 rfl) ?_
  refine lv_iload_n hx hb dX9_init_10 rfl (lv_at hl 2 rfl) ?_
  refine va_putF (D := D) (ci := 10) (v := .int v) (ty := .int) (C := RX9) (T := TX9) (N := 5) hx hb hts (by decide +kernel) tyX9 tyX9_ok nmX9 hown hC.1 hP hD hS 0 rfl rfl 1 (by decide) (hts (.fieldLink RX9 13 "Triplegarth$Shape" "predicate" "I") (by decide +kernel)) (fun _ h9 => h9) rfl hin rfl (by decide +kernel) rfl rfl (Nat.le_of_ble_eq_true rfl) dX9_init_11 (fun H locs hP hD hS => ?_)
  have hP : va_P D vwCl [(q, .inr (10, [.ref g, .int v, .int 0, .int 0, .int 0]))] H := hP
  have hD : va_D A [(q, .inr (10, [.ref g, .int v, .int 0, .int 0, .int 0]))] := hD
  refine lv_aload_n hx hb dX9_init_14 rfl (lv_at hl 0 rfl) ?_
  refine lv_iload_n hx hb dX9_init_15 rfl (lv_at hl 3 rfl) ?_
  refine va_putF (D := D) (ci := 10) (v := .int w) (ty := .int) (C := RX9) (T := TX9) (N := 5) hx hb hts (by decide +kernel) tyX9 tyX9_ok nmX9 hown hC.1 hP hD hS 0 rfl rfl 2 (by decide) (hts (.fieldLink RX9 17 "Triplegarth$Shape" "other" "I") (by decide +kernel)) (fun _ h9 => h9) rfl hin rfl (by decide +kernel) rfl rfl (Nat.le_of_ble_eq_true rfl) dX9_init_16 (fun H locs hP hD hS => ?_)
  have hP : va_P D vwCl [(q, .inr (10, [.ref g, .int v, .int w, .int 0, .int 0]))] H := hP
  have hD : va_D A [(q, .inr (10, [.ref g, .int v, .int w, .int 0, .int 0]))] := hD
  refine lv_aload_n hx hb dX9_init_19 rfl (lv_at hl 0 rfl) ?_
  refine lv_iload hx hb dX9_init_20 (lv_at hl 4 rfl) ?_
  refine va_putF (D := D) (ci := 10) (v := .int x) (ty := .int) (C := RX9) (T := TX9) (N := 5) hx hb hts (by decide +kernel) tyX9 tyX9_ok nmX9 hown hC.1 hP hD hS 0 rfl rfl 3 (by decide) (hts (.fieldLink RX9 20 "Triplegarth$Shape" "least" "I") (by decide +kernel)) (fun _ h9 => h9) rfl hin rfl (by decide +kernel) rfl rfl (Nat.le_of_ble_eq_true rfl) dX9_init_22 (fun H locs hP hD hS => ?_)
  have hP : va_P D vwCl [(q, .inr (10, [.ref g, .int v, .int w, .int x, .int 0]))] H := hP
  have hD : va_D A [(q, .inr (10, [.ref g, .int v, .int w, .int x, .int 0]))] := hD
  refine lv_aload_n hx hb dX9_init_25 rfl (lv_at hl 0 rfl) ?_
  refine lv_iload hx hb dX9_init_26 (lv_at hl 5 rfl) ?_
  refine va_putF (D := D) (ci := 10) (v := .int y) (ty := .int) (C := RX9) (T := TX9) (N := 5) hx hb hts (by decide +kernel) tyX9 tyX9_ok nmX9 hown hC.1 hP hD hS 0 rfl rfl 4 (by decide) (hts (.fieldLink RX9 23 "Triplegarth$Shape" "greatest" "I") (by decide +kernel)) (fun _ h9 => h9) rfl hin rfl (by decide +kernel) rfl rfl (Nat.le_of_ble_eq_true rfl) dX9_init_28 (fun H locs hP hD hS => ?_)
  have hP : va_P D vwCl [(q, .inr (10, [.ref g, .int v, .int w, .int x, .int y]))] H := hP
  have hD : va_D A [(q, .inr (10, [.ref g, .int v, .int w, .int x, .int y]))] := hD
  exact W.vret hx hb hr (fun t ht hW => ⟨⟨[.ref g, .int v, .int w, .int x, .int y], rfl, trivial, ⟨by rw [ht]; exact hP.sub [0] rfl, hD.sub [0] (by decide) rfl⟩⟩, hS.F ht⟩) hS.2.2 dX9_init_31

/-- the fresh store: the object, its graphs' array, its three lists, and of each graph the object, what is there, the proofs and their lowest parts -/
abbrev wT (k : Nat → ClassId) (to e0 : Nat) (u : Nat → Nat) : va_W := [(to, .inr (12, [.ref (u 0), .ref (u 1), .ref (u 2), .ref (u 3), .ref (u 4), .ref (u 5), .int 0, .int 0, .int 0])), ((u 0), .inl (k 3, 4, .inr (.inr (.inr (.inr (fun i => some (u (6 + i)))))))), ((u 1), .inr (2, [.int 0, .ref e0, .int 0])), ((u 2), .inr (2, [.int 0, .ref e0, .int 0])), ((u 3), .inr (2, [.int 0, .ref e0, .int 0])), ((u 6), .inr (4, [.ref (u 10), .ref (u 14), .int 0, .int 0, .int 0])), ((u 10), .inl (k 0, 768, .inl (fun _ => 0))), ((u 14), .inr (8, [.ref (u 18), .int 1, .ref (u 22)])), ((u 18), .inl (k 1, 768, .inr (.inl (fun _ => 0)))), ((u 7), .inr (4, [.ref (u 11), .ref (u 15), .int 0, .int 0, .int 0])), ((u 11), .inl (k 0, 768, .inl (fun _ => 0))), ((u 15), .inr (8, [.ref (u 19), .int 1, .ref (u 23)])), ((u 19), .inl (k 1, 768, .inr (.inl (fun _ => 0)))), ((u 8), .inr (4, [.ref (u 12), .ref (u 16), .int 0, .int 0, .int 0])), ((u 12), .inl (k 0, 768, .inl (fun _ => 0))), ((u 16), .inr (8, [.ref (u 20), .int 1, .ref (u 24)])), ((u 20), .inl (k 1, 768, .inr (.inl (fun _ => 0)))), ((u 9), .inr (4, [.ref (u 13), .ref (u 17), .int 0, .int 0, .int 0])), ((u 13), .inl (k 0, 768, .inl (fun _ => 0))), ((u 17), .inr (8, [.ref (u 21), .int 1, .ref (u 25)])), ((u 21), .inl (k 1, 768, .inr (.inl (fun _ => 0))))]

set_option maxHeartbeats 4000000 in
set_option maxRecDepth 100000 in
theorem k_X11_init (l : Launch) (D : va_G) (k : Nat → ClassId) (e0 : Nat) (sz : Nat) (to : Nat) : Met l yX11_init wsX11_init ({ frames := 4, cells := 26, slots := 9210, locals := 92 }) (mPc D k e0 sz [.ref to] [(to, .inr (12, [.null, .null, .null, .null, .null, .null, .int 0, .int 0, .int 0]))]) (va_Qv (fun (u : Nat → Nat) => True) (fun u t => va_P D vwCl (wT k to e0 u) t.heap ∧ va_D (va_A [(to, .inr (12, [.null, .null, .null, .null, .null, .null, .int 0, .int 0, .int 0]))] sz) (wT k to e0 u)) (va_A [(to, .inr (12, [.null, .null, .null, .null, .null, .null, .int 0, .int 0, .int 0]))] sz)) 26 9210 (va_A [(to, .inr (12, [.null, .null, .null, .null, .null, .null, .int 0, .int 0, .int 0]))] sz) := by
  refine Met.ofW (cc := cX11_init) (maxL := 2) (ret := none) (by decide) rfl ?_
  intro p e s m args below meth c s₁ B hml hv
  obtain ⟨rfl, rfl, hP, hC, hD0, hHf⟩ := hv
  have hx := B.exec
  have hb := B.bytes
  have hr := B.returns
  have hts := atoms_spec (ws := wsX11_init) B.pre
  have hown : s.vm.findClass RX11 = some m.cls := findClass_of_methodNamed B.named
  have hlocks := B.notSynchronized
  have hin : meth.name = "<init>" := (name_of_methodNamed B.named B.method).1
  have hD := hD0.self (sz := s.heap.size)
  generalize hAe : va_A [(to, .inr (12, [.null, .null, .null, .null, .null, .null, .int 0, .int 0, .int 0]))] s.heap.size = A at hD hHf ⊢
  have hA : ∀ q : Nat, s.heap.size ≤ q → A q := fun q h => by rw [← hAe]; exact Or.inr h
  have hS : va_S A s.heap s.heap [] := va_S.rf
  refine w_entry (Nat.le_of_ble_eq_true rfl) (fun ls hl => ?_)
  have hl : lv_has ls 2 [(0, .ref to)] := hl
  refine lv_aload_n hx hb dX11_init_0 rfl (lv_at hl 0 rfl) ?_
  refine W.objInit hx hb hown (hts (.methodLink RX11 3 objectInit) (by decide +kernel)) (hts (.instanceMethod objectInit) (by decide +kernel)) (hts (.code objectInit ⟨#[0xb1]⟩ 1 none) (by decide +kernel)) rfl (by rw [hml]; exact hl.1) rfl dX11_init_1 (Nat.le_of_ble_eq_true rfl) (Nat.le_of_ble_eq_true rfl) ?_
  refine W.eq (g2 := F0 m 4 ls []) rfl ?_
  refine lv_aload_n hx hb dX11_init_4 rfl (lv_at hl 0 rfl) ?_
  refine lv_iconst (v := 4) hx hb dX11_init_5 (by decide) ?_
  refine w_newq hx hb 3 rfl hown (hts (.classLink RX11 9 RX1) (by decide +kernel)) hC.2.2.1.1 hC.1 hP hD hS hA (N' := 4) (by decide) (by decide) (Nat.le_of_ble_eq_true rfl) (Nat.le_of_ble_eq_true rfl) (Nat.le_of_ble_eq_true rfl) dX11_init_6 (fun q6 H hP hD hS => ?_)
  have hP : va_P D vwCl [(to, .inr (12, [.null, .null, .null, .null, .null, .null, .int 0, .int 0, .int 0])), (q6, .inl (k 3, 4, .inr (.inr (.inr (.inr (fun _ => none))))))] H := hP
  have hD : va_D A [(to, .inr (12, [.null, .null, .null, .null, .null, .null, .int 0, .int 0, .int 0])), (q6, .inl (k 3, 4, .inr (.inr (.inr (.inr (fun _ => none))))))] := hD
  refine va_putF (D := D) (ci := 12) (v := .ref q6) (ty := .array (.object "Triplegarth$Graph")) (C := RX11) (T := TX11) (N := 9) hx hb hts (by decide +kernel) tyX11 tyX11_ok nmX11 hown hC.1 hP hD hS 0 rfl rfl 0 (by decide) (hts (.fieldLink RX11 11 "Triplegarth" "graphs" "[LTriplegarth$Graph;") (by decide +kernel)) (fun _ h9 => h9) rfl hin rfl (by decide +kernel) rfl rfl (Nat.le_of_ble_eq_true rfl) dX11_init_9 (fun H locs hP hD hS => ?_)
  have hP : va_P D vwCl [(to, .inr (12, [.ref q6, .null, .null, .null, .null, .null, .int 0, .int 0, .int 0])), (q6, .inl (k 3, 4, .inr (.inr (.inr (.inr (fun _ => none))))))] H := hP
  have hD : va_D A [(to, .inr (12, [.ref q6, .null, .null, .null, .null, .null, .int 0, .int 0, .int 0])), (q6, .inl (k 3, 4, .inr (.inr (.inr (.inr (fun _ => none))))))] := hD
  refine lv_aload_n hx hb dX11_init_12 rfl (lv_at hl 0 rfl) ?_
  refine va_new (ci := 2) (fs := [.int 0, .null, .int 0]) (C := RJx4a65c) (T := TJx4a65c) (N := 3) hx hb hts (by decide +kernel) tyJx4a65c tyJx4a65c_ok hown (hts (.classLink RX11 15 RJx4a65c) (by decide +kernel)) (hts (.instantiable RJx4a65c 3) (by decide +kernel)) (hts (.initialized RJx4a65c) (by decide +kernel)) hC.1 hP hD hS hA rfl (fun j hj => by rcases (show j = 0 ∨ j = 1 ∨ j = 2 by omega) with rfl | rfl | rfl <;> rfl) (Nat.le_of_ble_eq_true rfl) (Nat.le_of_ble_eq_true rfl) dX11_init_13 (fun q13 H hP hD hS => ?_)
  have hP : va_P D vwCl [(to, .inr (12, [.ref q6, .null, .null, .null, .null, .null, .int 0, .int 0, .int 0])), (q6, .inl (k 3, 4, .inr (.inr (.inr (.inr (fun _ => none)))))), (q13, .inr (2, [.int 0, .null, .int 0]))] H := hP
  have hD : va_D A [(to, .inr (12, [.ref q6, .null, .null, .null, .null, .null, .int 0, .int 0, .int 0])), (q6, .inl (k 3, 4, .inr (.inr (.inr (.inr (fun _ => none)))))), (q13, .inr (2, [.int 0, .null, .int 0]))] := hD
  refine lv_dup hx hb dX11_init_16 rfl ?_
  have hPc := hP.sub (ws' := [(q13, .inr (2, [.int 0, .null, .int 0]))]) [2] rfl
  have hDc := hD.sub (ws' := [(q13, .inr (2, [.int 0, .null, .int 0]))]) [2] (by decide) rfl
  have hFc := va_free (wc := [(q13, .inr (2, [.int 0, .null, .int 0]))]) hD hS hA [2] rfl
  refine va_callv (va_runI (As := []) (rest := [.ref q13, .ref to]) ⟨hx, hb, hml, hown, hts⟩ (k_Jx4a65c_init_da8c8 l D k e0 H.size q13) (cwI 0 hts gX11_init_Jx4a65c_init_da8c8 rfl rfl rfl (hts (.initialized RJx4a65c) (by decide +kernel)) (hts (.methodLink RX11 17 yJx4a65c_init_da8c8) (by decide +kernel)) (hts (.instanceMethod yJx4a65c_init_da8c8) (by decide +kernel)) rfl (by decide +kernel) ⟨Nat.le_of_ble_eq_true rfl, Nat.le_of_ble_eq_true rfl⟩) ⟨mPc_fb, mPc_go hC hHf hS hPc hDc hFc⟩ rfl rfl hl.1 rfl (lv_room (Nat.le_of_ble_eq_true rfl)) dX11_init_17 ⟨Nat.le_of_ble_eq_true rfl, Nat.le_of_ble_eq_true rfl⟩) hS (fun q9 _ h9 => hFc q9 h9) hFc (fun u1 t H locs ht hvm hw_r2 hB hz1 hk1 hS => ?_)
  obtain ⟨hP1, hD1⟩ := hB
  rw [ht] at hP1
  obtain ⟨hP, hD⟩ := va_join (wr := [(to, .inr (12, [.ref q6, .null, .null, .null, .null, .null, .int 0, .int 0, .int 0])), (q6, .inl (k 3, 4, .inr (.inr (.inr (.inr (fun _ => none))))))]) (w1 := [(q13, .inr (2, [.int 0, .ref e0, .int 0]))]) hP hD [2] [0, 1] rfl rfl (by decide) (by decide) hk1 hFc hP1 hD1
  have hP : va_P D vwCl [(to, .inr (12, [.ref q6, .null, .null, .null, .null, .null, .int 0, .int 0, .int 0])), (q6, .inl (k 3, 4, .inr (.inr (.inr (.inr (fun _ => none)))))), (q13, .inr (2, [.int 0, .ref e0, .int 0]))] H := hP
  have hD : va_D A [(to, .inr (12, [.ref q6, .null, .null, .null, .null, .null, .int 0, .int 0, .int 0])), (q6, .inl (k 3, 4, .inr (.inr (.inr (.inr (fun _ => none)))))), (q13, .inr (2, [.int 0, .ref e0, .int 0]))] := hD
  refine va_putF (D := D) (ci := 12) (v := .ref q13) (ty := .object "java/util/ArrayList") (C := RX11) (T := TX11) (N := 9) hx hb hts (by decide +kernel) tyX11 tyX11_ok nmX11 hown hC.1 hP hD hS 0 rfl rfl 1 (by decide) (hts (.fieldLink RX11 18 "Triplegarth" "rules" "Ljava/util/ArrayList;") (by decide +kernel)) (fun _ h9 => h9) rfl hin rfl (by decide +kernel) rfl rfl (Nat.le_of_ble_eq_true rfl) dX11_init_20 (fun H locs hP hD hS => ?_)
  have hP : va_P D vwCl [(to, .inr (12, [.ref q6, .ref q13, .null, .null, .null, .null, .int 0, .int 0, .int 0])), (q6, .inl (k 3, 4, .inr (.inr (.inr (.inr (fun _ => none)))))), (q13, .inr (2, [.int 0, .ref e0, .int 0]))] H := hP
  have hD : va_D A [(to, .inr (12, [.ref q6, .ref q13, .null, .null, .null, .null, .int 0, .int 0, .int 0])), (q6, .inl (k 3, 4, .inr (.inr (.inr (.inr (fun _ => none)))))), (q13, .inr (2, [.int 0, .ref e0, .int 0]))] := hD
  refine lv_aload_n hx hb dX11_init_23 rfl (lv_at hl 0 rfl) ?_
  refine va_new (ci := 2) (fs := [.int 0, .null, .int 0]) (C := RJx4a65c) (T := TJx4a65c) (N := 3) hx hb hts (by decide +kernel) tyJx4a65c tyJx4a65c_ok hown (hts (.classLink RX11 15 RJx4a65c) (by decide +kernel)) (hts (.instantiable RJx4a65c 3) (by decide +kernel)) (hts (.initialized RJx4a65c) (by decide +kernel)) hC.1 hP hD hS hA rfl (fun j hj => by rcases (show j = 0 ∨ j = 1 ∨ j = 2 by omega) with rfl | rfl | rfl <;> rfl) (Nat.le_of_ble_eq_true rfl) (Nat.le_of_ble_eq_true rfl) dX11_init_24 (fun q24 H hP hD hS => ?_)
  have hP : va_P D vwCl [(to, .inr (12, [.ref q6, .ref q13, .null, .null, .null, .null, .int 0, .int 0, .int 0])), (q6, .inl (k 3, 4, .inr (.inr (.inr (.inr (fun _ => none)))))), (q13, .inr (2, [.int 0, .ref e0, .int 0])), (q24, .inr (2, [.int 0, .null, .int 0]))] H := hP
  have hD : va_D A [(to, .inr (12, [.ref q6, .ref q13, .null, .null, .null, .null, .int 0, .int 0, .int 0])), (q6, .inl (k 3, 4, .inr (.inr (.inr (.inr (fun _ => none)))))), (q13, .inr (2, [.int 0, .ref e0, .int 0])), (q24, .inr (2, [.int 0, .null, .int 0]))] := hD
  refine lv_dup hx hb dX11_init_27 rfl ?_
  have hPc := hP.sub (ws' := [(q24, .inr (2, [.int 0, .null, .int 0]))]) [3] rfl
  have hDc := hD.sub (ws' := [(q24, .inr (2, [.int 0, .null, .int 0]))]) [3] (by decide) rfl
  have hFc := va_free (wc := [(q24, .inr (2, [.int 0, .null, .int 0]))]) hD hS hA [3] rfl
  refine va_callv (va_runI (As := []) (rest := [.ref q24, .ref to]) ⟨hx, hb, hml, hown, hts⟩ (k_Jx4a65c_init_da8c8 l D k e0 H.size q24) (cwI 0 hts gX11_init_Jx4a65c_init_da8c8 rfl rfl rfl (hts (.initialized RJx4a65c) (by decide +kernel)) (hts (.methodLink RX11 17 yJx4a65c_init_da8c8) (by decide +kernel)) (hts (.instanceMethod yJx4a65c_init_da8c8) (by decide +kernel)) rfl (by decide +kernel) ⟨Nat.le_of_ble_eq_true rfl, Nat.le_of_ble_eq_true rfl⟩) ⟨mPc_fb, mPc_go hC hHf hS hPc hDc hFc⟩ rfl rfl hl.1 rfl (lv_room (Nat.le_of_ble_eq_true rfl)) dX11_init_28 ⟨Nat.le_of_ble_eq_true rfl, Nat.le_of_ble_eq_true rfl⟩) hS (fun q9 _ h9 => hFc q9 h9) hFc (fun u4 t H locs ht hvm hw_r5 hB hz1 hk1 hS => ?_)
  obtain ⟨hP1, hD1⟩ := hB
  rw [ht] at hP1
  obtain ⟨hP, hD⟩ := va_join (wr := [(to, .inr (12, [.ref q6, .ref q13, .null, .null, .null, .null, .int 0, .int 0, .int 0])), (q6, .inl (k 3, 4, .inr (.inr (.inr (.inr (fun _ => none)))))), (q13, .inr (2, [.int 0, .ref e0, .int 0]))]) (w1 := [(q24, .inr (2, [.int 0, .ref e0, .int 0]))]) hP hD [3] [0, 1, 2] rfl rfl (by decide) (by decide) hk1 hFc hP1 hD1
  have hP : va_P D vwCl [(to, .inr (12, [.ref q6, .ref q13, .null, .null, .null, .null, .int 0, .int 0, .int 0])), (q6, .inl (k 3, 4, .inr (.inr (.inr (.inr (fun _ => none)))))), (q13, .inr (2, [.int 0, .ref e0, .int 0])), (q24, .inr (2, [.int 0, .ref e0, .int 0]))] H := hP
  have hD : va_D A [(to, .inr (12, [.ref q6, .ref q13, .null, .null, .null, .null, .int 0, .int 0, .int 0])), (q6, .inl (k 3, 4, .inr (.inr (.inr (.inr (fun _ => none)))))), (q13, .inr (2, [.int 0, .ref e0, .int 0])), (q24, .inr (2, [.int 0, .ref e0, .int 0]))] := hD
  refine va_putF (D := D) (ci := 12) (v := .ref q24) (ty := .object "java/util/ArrayList") (C := RX11) (T := TX11) (N := 9) hx hb hts (by decide +kernel) tyX11 tyX11_ok nmX11 hown hC.1 hP hD hS 0 rfl rfl 2 (by decide) (hts (.fieldLink RX11 22 "Triplegarth" "queries" "Ljava/util/ArrayList;") (by decide +kernel)) (fun _ h9 => h9) rfl hin rfl (by decide +kernel) rfl rfl (Nat.le_of_ble_eq_true rfl) dX11_init_31 (fun H locs hP hD hS => ?_)
  have hP : va_P D vwCl [(to, .inr (12, [.ref q6, .ref q13, .ref q24, .null, .null, .null, .int 0, .int 0, .int 0])), (q6, .inl (k 3, 4, .inr (.inr (.inr (.inr (fun _ => none)))))), (q13, .inr (2, [.int 0, .ref e0, .int 0])), (q24, .inr (2, [.int 0, .ref e0, .int 0]))] H := hP
  have hD : va_D A [(to, .inr (12, [.ref q6, .ref q13, .ref q24, .null, .null, .null, .int 0, .int 0, .int 0])), (q6, .inl (k 3, 4, .inr (.inr (.inr (.inr (fun _ => none)))))), (q13, .inr (2, [.int 0, .ref e0, .int 0])), (q24, .inr (2, [.int 0, .ref e0, .int 0]))] := hD
  refine lv_aload_n hx hb dX11_init_34 rfl (lv_at hl 0 rfl) ?_
  refine va_new (ci := 2) (fs := [.int 0, .null, .int 0]) (C := RJx4a65c) (T := TJx4a65c) (N := 3) hx hb hts (by decide +kernel) tyJx4a65c tyJx4a65c_ok hown (hts (.classLink RX11 15 RJx4a65c) (by decide +kernel)) (hts (.instantiable RJx4a65c 3) (by decide +kernel)) (hts (.initialized RJx4a65c) (by decide +kernel)) hC.1 hP hD hS hA rfl (fun j hj => by rcases (show j = 0 ∨ j = 1 ∨ j = 2 by omega) with rfl | rfl | rfl <;> rfl) (Nat.le_of_ble_eq_true rfl) (Nat.le_of_ble_eq_true rfl) dX11_init_35 (fun q35 H hP hD hS => ?_)
  have hP : va_P D vwCl [(to, .inr (12, [.ref q6, .ref q13, .ref q24, .null, .null, .null, .int 0, .int 0, .int 0])), (q6, .inl (k 3, 4, .inr (.inr (.inr (.inr (fun _ => none)))))), (q13, .inr (2, [.int 0, .ref e0, .int 0])), (q24, .inr (2, [.int 0, .ref e0, .int 0])), (q35, .inr (2, [.int 0, .null, .int 0]))] H := hP
  have hD : va_D A [(to, .inr (12, [.ref q6, .ref q13, .ref q24, .null, .null, .null, .int 0, .int 0, .int 0])), (q6, .inl (k 3, 4, .inr (.inr (.inr (.inr (fun _ => none)))))), (q13, .inr (2, [.int 0, .ref e0, .int 0])), (q24, .inr (2, [.int 0, .ref e0, .int 0])), (q35, .inr (2, [.int 0, .null, .int 0]))] := hD
  refine lv_dup hx hb dX11_init_38 rfl ?_
  have hPc := hP.sub (ws' := [(q35, .inr (2, [.int 0, .null, .int 0]))]) [4] rfl
  have hDc := hD.sub (ws' := [(q35, .inr (2, [.int 0, .null, .int 0]))]) [4] (by decide) rfl
  have hFc := va_free (wc := [(q35, .inr (2, [.int 0, .null, .int 0]))]) hD hS hA [4] rfl
  refine va_callv (va_runI (As := []) (rest := [.ref q35, .ref to]) ⟨hx, hb, hml, hown, hts⟩ (k_Jx4a65c_init_da8c8 l D k e0 H.size q35) (cwI 0 hts gX11_init_Jx4a65c_init_da8c8 rfl rfl rfl (hts (.initialized RJx4a65c) (by decide +kernel)) (hts (.methodLink RX11 17 yJx4a65c_init_da8c8) (by decide +kernel)) (hts (.instanceMethod yJx4a65c_init_da8c8) (by decide +kernel)) rfl (by decide +kernel) ⟨Nat.le_of_ble_eq_true rfl, Nat.le_of_ble_eq_true rfl⟩) ⟨mPc_fb, mPc_go hC hHf hS hPc hDc hFc⟩ rfl rfl hl.1 rfl (lv_room (Nat.le_of_ble_eq_true rfl)) dX11_init_39 ⟨Nat.le_of_ble_eq_true rfl, Nat.le_of_ble_eq_true rfl⟩) hS (fun q9 _ h9 => hFc q9 h9) hFc (fun u7 t H locs ht hvm hw_r8 hB hz1 hk1 hS => ?_)
  obtain ⟨hP1, hD1⟩ := hB
  rw [ht] at hP1
  obtain ⟨hP, hD⟩ := va_join (wr := [(to, .inr (12, [.ref q6, .ref q13, .ref q24, .null, .null, .null, .int 0, .int 0, .int 0])), (q6, .inl (k 3, 4, .inr (.inr (.inr (.inr (fun _ => none)))))), (q13, .inr (2, [.int 0, .ref e0, .int 0])), (q24, .inr (2, [.int 0, .ref e0, .int 0]))]) (w1 := [(q35, .inr (2, [.int 0, .ref e0, .int 0]))]) hP hD [4] [0, 1, 2, 3] rfl rfl (by decide) (by decide) hk1 hFc hP1 hD1
  have hP : va_P D vwCl [(to, .inr (12, [.ref q6, .ref q13, .ref q24, .null, .null, .null, .int 0, .int 0, .int 0])), (q6, .inl (k 3, 4, .inr (.inr (.inr (.inr (fun _ => none)))))), (q13, .inr (2, [.int 0, .ref e0, .int 0])), (q24, .inr (2, [.int 0, .ref e0, .int 0])), (q35, .inr (2, [.int 0, .ref e0, .int 0]))] H := hP
  have hD : va_D A [(to, .inr (12, [.ref q6, .ref q13, .ref q24, .null, .null, .null, .int 0, .int 0, .int 0])), (q6, .inl (k 3, 4, .inr (.inr (.inr (.inr (fun _ => none)))))), (q13, .inr (2, [.int 0, .ref e0, .int 0])), (q24, .inr (2, [.int 0, .ref e0, .int 0])), (q35, .inr (2, [.int 0, .ref e0, .int 0]))] := hD
  refine va_putF (D := D) (ci := 12) (v := .ref q35) (ty := .object "java/util/ArrayList") (C := RX11) (T := TX11) (N := 9) hx hb hts (by decide +kernel) tyX11 tyX11_ok nmX11 hown hC.1 hP hD hS 0 rfl rfl 3 (by decide) (hts (.fieldLink RX11 25 "Triplegarth" "shapes" "Ljava/util/ArrayList;") (by decide +kernel)) (fun _ h9 => h9) rfl hin rfl (by decide +kernel) rfl rfl (Nat.le_of_ble_eq_true rfl) dX11_init_42 (fun H locs hP hD hS => ?_)
  have hP : va_P D vwCl [(to, .inr (12, [.ref q6, .ref q13, .ref q24, .ref q35, .null, .null, .int 0, .int 0, .int 0])), (q6, .inl (k 3, 4, .inr (.inr (.inr (.inr (fun _ => none)))))), (q13, .inr (2, [.int 0, .ref e0, .int 0])), (q24, .inr (2, [.int 0, .ref e0, .int 0])), (q35, .inr (2, [.int 0, .ref e0, .int 0]))] H := hP
  have hD : va_D A [(to, .inr (12, [.ref q6, .ref q13, .ref q24, .ref q35, .null, .null, .int 0, .int 0, .int 0])), (q6, .inl (k 3, 4, .inr (.inr (.inr (.inr (fun _ => none)))))), (q13, .inr (2, [.int 0, .ref e0, .int 0])), (q24, .inr (2, [.int 0, .ref e0, .int 0])), (q35, .inr (2, [.int 0, .ref e0, .int 0]))] := hD
  refine lv_aload_n hx hb dX11_init_45 rfl (lv_at hl 0 rfl) ?_
  refine lv_sipush (v := 768) hx hb dX11_init_46 (by decide) ?_
  refine w_newa (atype := .boolean) hx hb (hts (.arrayClass .boolean) (by decide +kernel)) (ty := .boolean) rfl 0 rfl hC.1 hP hD hS hA (a0 := (768, .inl (fun _ => 0))) (N' := 768) (fun _ => rfl) (by decide) (by decide) (Nat.le_of_ble_eq_true rfl) (Nat.le_of_ble_eq_true rfl) (Nat.le_of_ble_eq_true rfl) dX11_init_49 (fun q49 H hP hD hS => ?_)
  have hP : va_P D vwCl [(to, .inr (12, [.ref q6, .ref q13, .ref q24, .ref q35, .null, .null, .int 0, .int 0, .int 0])), (q6, .inl (k 3, 4, .inr (.inr (.inr (.inr (fun _ => none)))))), (q13, .inr (2, [.int 0, .ref e0, .int 0])), (q24, .inr (2, [.int 0, .ref e0, .int 0])), (q35, .inr (2, [.int 0, .ref e0, .int 0])), (q49, .inl (k 0, 768, .inl (fun _ => 0)))] H := hP
  have hD : va_D A [(to, .inr (12, [.ref q6, .ref q13, .ref q24, .ref q35, .null, .null, .int 0, .int 0, .int 0])), (q6, .inl (k 3, 4, .inr (.inr (.inr (.inr (fun _ => none)))))), (q13, .inr (2, [.int 0, .ref e0, .int 0])), (q24, .inr (2, [.int 0, .ref e0, .int 0])), (q35, .inr (2, [.int 0, .ref e0, .int 0])), (q49, .inl (k 0, 768, .inl (fun _ => 0)))] := hD
  refine va_putF (D := D) (ci := 12) (v := .ref q49) (ty := .array .boolean) (C := RX11) (T := TX11) (N := 9) hx hb hts (by decide +kernel) tyX11 tyX11_ok nmX11 hown hC.1 hP hD hS 0 rfl rfl 4 (by decide) (hts (.fieldLink RX11 28 "Triplegarth" "made" "[Z") (by decide +kernel)) (fun _ h9 => h9) rfl hin rfl (by decide +kernel) rfl rfl (Nat.le_of_ble_eq_true rfl) dX11_init_51 (fun H locs hP hD hS => ?_)
  have hP : va_P D vwCl [(to, .inr (12, [.ref q6, .ref q13, .ref q24, .ref q35, .ref q49, .null, .int 0, .int 0, .int 0])), (q6, .inl (k 3, 4, .inr (.inr (.inr (.inr (fun _ => none)))))), (q13, .inr (2, [.int 0, .ref e0, .int 0])), (q24, .inr (2, [.int 0, .ref e0, .int 0])), (q35, .inr (2, [.int 0, .ref e0, .int 0])), (q49, .inl (k 0, 768, .inl (fun _ => 0)))] H := hP
  have hD : va_D A [(to, .inr (12, [.ref q6, .ref q13, .ref q24, .ref q35, .ref q49, .null, .int 0, .int 0, .int 0])), (q6, .inl (k 3, 4, .inr (.inr (.inr (.inr (fun _ => none)))))), (q13, .inr (2, [.int 0, .ref e0, .int 0])), (q24, .inr (2, [.int 0, .ref e0, .int 0])), (q35, .inr (2, [.int 0, .ref e0, .int 0])), (q49, .inl (k 0, 768, .inl (fun _ => 0)))] := hD
  refine lv_aload_n hx hb dX11_init_54 rfl (lv_at hl 0 rfl) ?_
  refine lv_sipush (v := 2197) hx hb dX11_init_55 (by decide) ?_
  refine w_newa (atype := .int) hx hb (hts (.arrayClass .int) (by decide +kernel)) (ty := .int) rfl 2 rfl hC.1 hP hD hS hA (a0 := (2197, .inl (fun _ => 0))) (N' := 2197) (fun _ => rfl) (by decide) (by decide) (Nat.le_of_ble_eq_true rfl) (Nat.le_of_ble_eq_true rfl) (Nat.le_of_ble_eq_true rfl) dX11_init_58 (fun q58 H hP hD hS => ?_)
  have hP : va_P D vwCl [(to, .inr (12, [.ref q6, .ref q13, .ref q24, .ref q35, .ref q49, .null, .int 0, .int 0, .int 0])), (q6, .inl (k 3, 4, .inr (.inr (.inr (.inr (fun _ => none)))))), (q13, .inr (2, [.int 0, .ref e0, .int 0])), (q24, .inr (2, [.int 0, .ref e0, .int 0])), (q35, .inr (2, [.int 0, .ref e0, .int 0])), (q49, .inl (k 0, 768, .inl (fun _ => 0))), (q58, .inl (k 2, 2197, .inl (fun _ => 0)))] H := hP
  have hD : va_D A [(to, .inr (12, [.ref q6, .ref q13, .ref q24, .ref q35, .ref q49, .null, .int 0, .int 0, .int 0])), (q6, .inl (k 3, 4, .inr (.inr (.inr (.inr (fun _ => none)))))), (q13, .inr (2, [.int 0, .ref e0, .int 0])), (q24, .inr (2, [.int 0, .ref e0, .int 0])), (q35, .inr (2, [.int 0, .ref e0, .int 0])), (q49, .inl (k 0, 768, .inl (fun _ => 0))), (q58, .inl (k 2, 2197, .inl (fun _ => 0)))] := hD
  refine va_putF (D := D) (ci := 12) (v := .ref q58) (ty := .array .int) (C := RX11) (T := TX11) (N := 9) hx hb hts (by decide +kernel) tyX11 tyX11_ok nmX11 hown hC.1 hP hD hS 0 rfl rfl 5 (by decide) (hts (.fieldLink RX11 34 "Triplegarth" "mates" "[I") (by decide +kernel)) (fun _ h9 => h9) rfl hin rfl (by decide +kernel) rfl rfl (Nat.le_of_ble_eq_true rfl) dX11_init_60 (fun H locs hP hD hS => ?_)
  have hP : va_P D vwCl [(to, .inr (12, [.ref q6, .ref q13, .ref q24, .ref q35, .ref q49, .ref q58, .int 0, .int 0, .int 0])), (q6, .inl (k 3, 4, .inr (.inr (.inr (.inr (fun _ => none)))))), (q13, .inr (2, [.int 0, .ref e0, .int 0])), (q24, .inr (2, [.int 0, .ref e0, .int 0])), (q35, .inr (2, [.int 0, .ref e0, .int 0])), (q49, .inl (k 0, 768, .inl (fun _ => 0))), (q58, .inl (k 2, 2197, .inl (fun _ => 0)))] H := hP
  have hD : va_D A [(to, .inr (12, [.ref q6, .ref q13, .ref q24, .ref q35, .ref q49, .ref q58, .int 0, .int 0, .int 0])), (q6, .inl (k 3, 4, .inr (.inr (.inr (.inr (fun _ => none)))))), (q13, .inr (2, [.int 0, .ref e0, .int 0])), (q24, .inr (2, [.int 0, .ref e0, .int 0])), (q35, .inr (2, [.int 0, .ref e0, .int 0])), (q49, .inl (k 0, 768, .inl (fun _ => 0))), (q58, .inl (k 2, 2197, .inl (fun _ => 0)))] := hD
  refine lv_aload_n hx hb dX11_init_63 rfl (lv_at hl 0 rfl) ?_
  refine lv_iconst (v := 0) hx hb dX11_init_64 (by decide) ?_
  refine va_put (D := D) (ci := 12) (v := .int 0) (ty := .boolean) (C := RX11) (T := TX11) (N := 9) hx hb hts (by decide +kernel) tyX11 tyX11_ok nmX11 hown hC.1 hP hD hS 0 rfl rfl 6 (by decide) (hts (.fieldLink RX11 38 "Triplegarth" "isEntailed" "Z") (by decide +kernel)) (fun _ h9 => h9) rfl (by decide +kernel) rfl rfl (Nat.le_of_ble_eq_true rfl) dX11_init_65 (fun H locs hP hD hS => ?_)
  have hP : va_P D vwCl [(to, .inr (12, [.ref q6, .ref q13, .ref q24, .ref q35, .ref q49, .ref q58, .int 0, .int 0, .int 0])), (q6, .inl (k 3, 4, .inr (.inr (.inr (.inr (fun _ => none)))))), (q13, .inr (2, [.int 0, .ref e0, .int 0])), (q24, .inr (2, [.int 0, .ref e0, .int 0])), (q35, .inr (2, [.int 0, .ref e0, .int 0])), (q49, .inl (k 0, 768, .inl (fun _ => 0))), (q58, .inl (k 2, 2197, .inl (fun _ => 0)))] H := hP
  have hD : va_D A [(to, .inr (12, [.ref q6, .ref q13, .ref q24, .ref q35, .ref q49, .ref q58, .int 0, .int 0, .int 0])), (q6, .inl (k 3, 4, .inr (.inr (.inr (.inr (fun _ => none)))))), (q13, .inr (2, [.int 0, .ref e0, .int 0])), (q24, .inr (2, [.int 0, .ref e0, .int 0])), (q35, .inr (2, [.int 0, .ref e0, .int 0])), (q49, .inl (k 0, 768, .inl (fun _ => 0))), (q58, .inl (k 2, 2197, .inl (fun _ => 0)))] := hD
  refine lv_aload_n hx hb dX11_init_68 rfl (lv_at hl 0 rfl) ?_
  refine lv_iconst (v := 0) hx hb dX11_init_69 (by decide) ?_
  refine va_put (D := D) (ci := 12) (v := .int 0) (ty := .int) (C := RX11) (T := TX11) (N := 9) hx hb hts (by decide +kernel) tyX11 tyX11_ok nmX11 hown hC.1 hP hD hS 0 rfl rfl 7 (by decide) (hts (.fieldLink RX11 42 "Triplegarth" "reckoned" "I") (by decide +kernel)) (fun _ h9 => h9) rfl (by decide +kernel) rfl rfl (Nat.le_of_ble_eq_true rfl) dX11_init_70 (fun H locs hP hD hS => ?_)
  have hP : va_P D vwCl [(to, .inr (12, [.ref q6, .ref q13, .ref q24, .ref q35, .ref q49, .ref q58, .int 0, .int 0, .int 0])), (q6, .inl (k 3, 4, .inr (.inr (.inr (.inr (fun _ => none)))))), (q13, .inr (2, [.int 0, .ref e0, .int 0])), (q24, .inr (2, [.int 0, .ref e0, .int 0])), (q35, .inr (2, [.int 0, .ref e0, .int 0])), (q49, .inl (k 0, 768, .inl (fun _ => 0))), (q58, .inl (k 2, 2197, .inl (fun _ => 0)))] H := hP
  have hD : va_D A [(to, .inr (12, [.ref q6, .ref q13, .ref q24, .ref q35, .ref q49, .ref q58, .int 0, .int 0, .int 0])), (q6, .inl (k 3, 4, .inr (.inr (.inr (.inr (fun _ => none)))))), (q13, .inr (2, [.int 0, .ref e0, .int 0])), (q24, .inr (2, [.int 0, .ref e0, .int 0])), (q35, .inr (2, [.int 0, .ref e0, .int 0])), (q49, .inl (k 0, 768, .inl (fun _ => 0))), (q58, .inl (k 2, 2197, .inl (fun _ => 0)))] := hD
  refine lv_aload_n hx hb dX11_init_73 rfl (lv_at hl 0 rfl) ?_
  refine lv_iconst (v := 0) hx hb dX11_init_74 (by decide) ?_
  refine va_put (D := D) (ci := 12) (v := .int 0) (ty := .int) (C := RX11) (T := TX11) (N := 9) hx hb hts (by decide +kernel) tyX11 tyX11_ok nmX11 hown hC.1 hP hD hS 0 rfl rfl 8 (by decide) (hts (.fieldLink RX11 46 "Triplegarth" "tried" "I") (by decide +kernel)) (fun _ h9 => h9) rfl (by decide +kernel) rfl rfl (Nat.le_of_ble_eq_true rfl) dX11_init_75 (fun H locs hP hD hS => ?_)
  have hP : va_P D vwCl [(to, .inr (12, [.ref q6, .ref q13, .ref q24, .ref q35, .ref q49, .ref q58, .int 0, .int 0, .int 0])), (q6, .inl (k 3, 4, .inr (.inr (.inr (.inr (fun _ => none)))))), (q13, .inr (2, [.int 0, .ref e0, .int 0])), (q24, .inr (2, [.int 0, .ref e0, .int 0])), (q35, .inr (2, [.int 0, .ref e0, .int 0])), (q49, .inl (k 0, 768, .inl (fun _ => 0))), (q58, .inl (k 2, 2197, .inl (fun _ => 0)))] H := hP
  have hD : va_D A [(to, .inr (12, [.ref q6, .ref q13, .ref q24, .ref q35, .ref q49, .ref q58, .int 0, .int 0, .int 0])), (q6, .inl (k 3, 4, .inr (.inr (.inr (.inr (fun _ => none)))))), (q13, .inr (2, [.int 0, .ref e0, .int 0])), (q24, .inr (2, [.int 0, .ref e0, .int 0])), (q35, .inr (2, [.int 0, .ref e0, .int 0])), (q49, .inl (k 0, 768, .inl (fun _ => 0))), (q58, .inl (k 2, 2197, .inl (fun _ => 0)))] := hD
  refine lv_iconst (v := 0) hx hb dX11_init_78 (by decide) ?_
  refine lv_istore_n (lv' := [(1, .int 0), (0, .ref to)]) hx hb dX11_init_79 rfl hl (by decide) rfl (fun ls hl => ?_)
  refine lv_iload_n hx hb dX11_init_80 rfl (lv_at hl 0 rfl) ?_
  refine lv_iconst (v := 4) hx hb dX11_init_81 (by decide) ?_
  refine lv_icmp_ge (tgt := 104) hx hb dX11_init_82 (by decide) (fun c_82 => absurd c_82 (by decide)) (fun c_82 => ?_)
  refine lv_aload_n hx hb dX11_init_85 rfl (lv_at hl 1 rfl) ?_
  refine va_get (D := D) (ci := 12) (v := .ref q6) (C := RX11) (T := TX11) (N := 9) hx hb hts (by decide +kernel) hown hC.1 hP 0 rfl rfl 0 (by decide) (hts (.fieldLink RX11 11 "Triplegarth" "graphs" "[LTriplegarth$Graph;") (by decide +kernel)) (fun _ h9 => h9) rfl dX11_init_86 ?_
  refine lv_iload_n hx hb dX11_init_89 rfl (lv_at hl 0 rfl) ?_
  refine va_new (ci := 4) (fs := [.null, .null, .int 0, .int 0, .int 0]) (C := RX1) (T := TX1) (N := 5) hx hb hts (by decide +kernel) tyX1 tyX1_ok hown (hts (.classLink RX11 9 RX1) (by decide +kernel)) (hts (.instantiable RX1 5) (by decide +kernel)) (hts (.initialized RX1) (by decide +kernel)) hC.1 hP hD hS hA rfl (fun j hj => by rcases (show j = 0 ∨ j = 1 ∨ j = 2 ∨ j = 3 ∨ j = 4 by omega) with rfl | rfl | rfl | rfl | rfl <;> rfl) (Nat.le_of_ble_eq_true rfl) (Nat.le_of_ble_eq_true rfl) dX11_init_90 (fun q90 H hP hD hS => ?_)
  have hP : va_P D vwCl [(to, .inr (12, [.ref q6, .ref q13, .ref q24, .ref q35, .ref q49, .ref q58, .int 0, .int 0, .int 0])), (q6, .inl (k 3, 4, .inr (.inr (.inr (.inr (fun _ => none)))))), (q13, .inr (2, [.int 0, .ref e0, .int 0])), (q24, .inr (2, [.int 0, .ref e0, .int 0])), (q35, .inr (2, [.int 0, .ref e0, .int 0])), (q49, .inl (k 0, 768, .inl (fun _ => 0))), (q58, .inl (k 2, 2197, .inl (fun _ => 0))), (q90, .inr (4, [.null, .null, .int 0, .int 0, .int 0]))] H := hP
  have hD : va_D A [(to, .inr (12, [.ref q6, .ref q13, .ref q24, .ref q35, .ref q49, .ref q58, .int 0, .int 0, .int 0])), (q6, .inl (k 3, 4, .inr (.inr (.inr (.inr (fun _ => none)))))), (q13, .inr (2, [.int 0, .ref e0, .int 0])), (q24, .inr (2, [.int 0, .ref e0, .int 0])), (q35, .inr (2, [.int 0, .ref e0, .int 0])), (q49, .inl (k 0, 768, .inl (fun _ => 0))), (q58, .inl (k 2, 2197, .inl (fun _ => 0))), (q90, .inr (4, [.null, .null, .int 0, .int 0, .int 0]))] := hD
  refine lv_dup hx hb dX11_init_93 rfl ?_
  have hPc := hP.sub (ws' := [(q90, .inr (4, [.null, .null, .int 0, .int 0, .int 0]))]) [7] rfl
  have hDc := hD.sub (ws' := [(q90, .inr (4, [.null, .null, .int 0, .int 0, .int 0]))]) [7] (by decide) rfl
  have hFc := va_free (wc := [(q90, .inr (4, [.null, .null, .int 0, .int 0, .int 0]))]) hD hS hA [7] rfl
  refine va_callv (va_runIN (As := []) (rest := [.ref q90, .int 0, .ref q6]) ⟨hx, hb, hml, hown, hts⟩ (k_X1_init l D k e0 H.size q90) ⟨va_cnB 0 hts gX11_init_X1_init_n49 rfl rfl rfl hC.2.1.1 (hts (.initialized RX1) (by decide +kernel)) (by decide +kernel) ⟨Nat.le_of_ble_eq_true rfl, Nat.le_of_ble_eq_true rfl⟩, rfl, hts (.instanceMethod yX1_init) (by decide +kernel)⟩ ⟨mPc_fb, mPc_go hC hHf hS hPc hDc hFc⟩ rfl rfl hl.1 rfl (lv_room (Nat.le_of_ble_eq_true rfl)) dX11_init_94 ⟨Nat.le_of_ble_eq_true rfl, Nat.le_of_ble_eq_true rfl⟩) hS (fun q9 _ h9 => hFc q9 h9) hFc (fun u10 t H locs ht hvm hw_r11 hB hz1 hk1 hS => ?_)
  obtain ⟨hP1, hD1⟩ := hB
  rw [ht] at hP1
  obtain ⟨hP, hD⟩ := va_join (wr := [(to, .inr (12, [.ref q6, .ref q13, .ref q24, .ref q35, .ref q49, .ref q58, .int 0, .int 0, .int 0])), (q6, .inl (k 3, 4, .inr (.inr (.inr (.inr (fun _ => none)))))), (q13, .inr (2, [.int 0, .ref e0, .int 0])), (q24, .inr (2, [.int 0, .ref e0, .int 0])), (q35, .inr (2, [.int 0, .ref e0, .int 0])), (q49, .inl (k 0, 768, .inl (fun _ => 0))), (q58, .inl (k 2, 2197, .inl (fun _ => 0)))]) (w1 := [(q90, .inr (4, [.ref (u10 0), .ref (u10 1), .int 0, .int 0, .int 0])), ((u10 0), .inl (k 0, 768, .inl (fun _ => 0))), ((u10 1), .inr (8, [.ref (u10 2), .int 1, .ref (u10 3)])), ((u10 2), .inl (k 1, 768, .inr (.inl (fun _ => 0))))]) hP hD [7] [0, 1, 2, 3, 4, 5, 6] rfl rfl (by decide) (by decide) hk1 hFc hP1 hD1
  have hP : va_P D vwCl [(to, .inr (12, [.ref q6, .ref q13, .ref q24, .ref q35, .ref q49, .ref q58, .int 0, .int 0, .int 0])), (q6, .inl (k 3, 4, .inr (.inr (.inr (.inr (fun _ => none)))))), (q13, .inr (2, [.int 0, .ref e0, .int 0])), (q24, .inr (2, [.int 0, .ref e0, .int 0])), (q35, .inr (2, [.int 0, .ref e0, .int 0])), (q49, .inl (k 0, 768, .inl (fun _ => 0))), (q58, .inl (k 2, 2197, .inl (fun _ => 0))), (q90, .inr (4, [.ref (u10 0), .ref (u10 1), .int 0, .int 0, .int 0])), ((u10 0), .inl (k 0, 768, .inl (fun _ => 0))), ((u10 1), .inr (8, [.ref (u10 2), .int 1, .ref (u10 3)])), ((u10 2), .inl (k 1, 768, .inr (.inl (fun _ => 0))))] H := hP
  have hD : va_D A [(to, .inr (12, [.ref q6, .ref q13, .ref q24, .ref q35, .ref q49, .ref q58, .int 0, .int 0, .int 0])), (q6, .inl (k 3, 4, .inr (.inr (.inr (.inr (fun _ => none)))))), (q13, .inr (2, [.int 0, .ref e0, .int 0])), (q24, .inr (2, [.int 0, .ref e0, .int 0])), (q35, .inr (2, [.int 0, .ref e0, .int 0])), (q49, .inl (k 0, 768, .inl (fun _ => 0))), (q58, .inl (k 2, 2197, .inl (fun _ => 0))), (q90, .inr (4, [.ref (u10 0), .ref (u10 1), .int 0, .int 0, .int 0])), ((u10 0), .inl (k 0, 768, .inl (fun _ => 0))), ((u10 1), .inr (8, [.ref (u10 2), .int 1, .ref (u10 3)])), ((u10 2), .inl (k 1, 768, .inr (.inl (fun _ => 0))))] := hD
  refine va_astq hx hb hC.1 hP hD hS 1 3 7 4 rfl rfl rfl rfl (vp_in_nI (n := 0) (N := 4) (by decide) (by decide)) dX11_init_97 (fun H locs hP hD hS => ?_)
  have hP : va_P D vwCl [(to, .inr (12, [.ref q6, .ref q13, .ref q24, .ref q35, .ref q49, .ref q58, .int 0, .int 0, .int 0])), (q6, .inl (k 3, 4, .inr (.inr (.inr (.inr (va_up (fun _ => none) (0 : Int32).toNatClampNeg (some q90))))))), (q13, .inr (2, [.int 0, .ref e0, .int 0])), (q24, .inr (2, [.int 0, .ref e0, .int 0])), (q35, .inr (2, [.int 0, .ref e0, .int 0])), (q49, .inl (k 0, 768, .inl (fun _ => 0))), (q58, .inl (k 2, 2197, .inl (fun _ => 0))), (q90, .inr (4, [.ref (u10 0), .ref (u10 1), .int 0, .int 0, .int 0])), ((u10 0), .inl (k 0, 768, .inl (fun _ => 0))), ((u10 1), .inr (8, [.ref (u10 2), .int 1, .ref (u10 3)])), ((u10 2), .inl (k 1, 768, .inr (.inl (fun _ => 0))))] H := hP
  have hD : va_D A [(to, .inr (12, [.ref q6, .ref q13, .ref q24, .ref q35, .ref q49, .ref q58, .int 0, .int 0, .int 0])), (q6, .inl (k 3, 4, .inr (.inr (.inr (.inr (va_up (fun _ => none) (0 : Int32).toNatClampNeg (some q90))))))), (q13, .inr (2, [.int 0, .ref e0, .int 0])), (q24, .inr (2, [.int 0, .ref e0, .int 0])), (q35, .inr (2, [.int 0, .ref e0, .int 0])), (q49, .inl (k 0, 768, .inl (fun _ => 0))), (q58, .inl (k 2, 2197, .inl (fun _ => 0))), (q90, .inr (4, [.ref (u10 0), .ref (u10 1), .int 0, .int 0, .int 0])), ((u10 0), .inl (k 0, 768, .inl (fun _ => 0))), ((u10 1), .inr (8, [.ref (u10 2), .int 1, .ref (u10 3)])), ((u10 2), .inl (k 1, 768, .inr (.inl (fun _ => 0))))] := hD
  refine lv_iinc (v := 1) (lv' := [(1, .int 1), (0, .ref to)]) hx hb dX11_init_98 hl (k := 0) rfl (by decide) (by decide) rfl (fun ls hl => ?_)
  refine lv_goto (tgt := 80) hx hb dX11_init_101 (by decide) ?_
  refine lv_iload_n hx hb dX11_init_80 rfl (lv_at hl 0 rfl) ?_
  refine lv_iconst (v := 4) hx hb dX11_init_81 (by decide) ?_
  refine lv_icmp_ge (tgt := 104) hx hb dX11_init_82 (by decide) (fun c_82_1 => absurd c_82_1 (by decide)) (fun c_82_1 => ?_)
  refine lv_aload_n hx hb dX11_init_85 rfl (lv_at hl 1 rfl) ?_
  refine va_get (D := D) (ci := 12) (v := .ref q6) (C := RX11) (T := TX11) (N := 9) hx hb hts (by decide +kernel) hown hC.1 hP 0 rfl rfl 0 (by decide) (hts (.fieldLink RX11 11 "Triplegarth" "graphs" "[LTriplegarth$Graph;") (by decide +kernel)) (fun _ h9 => h9) rfl dX11_init_86 ?_
  refine lv_iload_n hx hb dX11_init_89 rfl (lv_at hl 0 rfl) ?_
  refine va_new (ci := 4) (fs := [.null, .null, .int 0, .int 0, .int 0]) (C := RX1) (T := TX1) (N := 5) hx hb hts (by decide +kernel) tyX1 tyX1_ok hown (hts (.classLink RX11 9 RX1) (by decide +kernel)) (hts (.instantiable RX1 5) (by decide +kernel)) (hts (.initialized RX1) (by decide +kernel)) hC.1 hP hD hS hA rfl (fun j hj => by rcases (show j = 0 ∨ j = 1 ∨ j = 2 ∨ j = 3 ∨ j = 4 by omega) with rfl | rfl | rfl | rfl | rfl <;> rfl) (Nat.le_of_ble_eq_true rfl) (Nat.le_of_ble_eq_true rfl) dX11_init_90 (fun q90_1 H hP hD hS => ?_)
  have hP : va_P D vwCl [(to, .inr (12, [.ref q6, .ref q13, .ref q24, .ref q35, .ref q49, .ref q58, .int 0, .int 0, .int 0])), (q6, .inl (k 3, 4, .inr (.inr (.inr (.inr (va_up (fun _ => none) (0 : Int32).toNatClampNeg (some q90))))))), (q13, .inr (2, [.int 0, .ref e0, .int 0])), (q24, .inr (2, [.int 0, .ref e0, .int 0])), (q35, .inr (2, [.int 0, .ref e0, .int 0])), (q49, .inl (k 0, 768, .inl (fun _ => 0))), (q58, .inl (k 2, 2197, .inl (fun _ => 0))), (q90, .inr (4, [.ref (u10 0), .ref (u10 1), .int 0, .int 0, .int 0])), ((u10 0), .inl (k 0, 768, .inl (fun _ => 0))), ((u10 1), .inr (8, [.ref (u10 2), .int 1, .ref (u10 3)])), ((u10 2), .inl (k 1, 768, .inr (.inl (fun _ => 0)))), (q90_1, .inr (4, [.null, .null, .int 0, .int 0, .int 0]))] H := hP
  have hD : va_D A [(to, .inr (12, [.ref q6, .ref q13, .ref q24, .ref q35, .ref q49, .ref q58, .int 0, .int 0, .int 0])), (q6, .inl (k 3, 4, .inr (.inr (.inr (.inr (va_up (fun _ => none) (0 : Int32).toNatClampNeg (some q90))))))), (q13, .inr (2, [.int 0, .ref e0, .int 0])), (q24, .inr (2, [.int 0, .ref e0, .int 0])), (q35, .inr (2, [.int 0, .ref e0, .int 0])), (q49, .inl (k 0, 768, .inl (fun _ => 0))), (q58, .inl (k 2, 2197, .inl (fun _ => 0))), (q90, .inr (4, [.ref (u10 0), .ref (u10 1), .int 0, .int 0, .int 0])), ((u10 0), .inl (k 0, 768, .inl (fun _ => 0))), ((u10 1), .inr (8, [.ref (u10 2), .int 1, .ref (u10 3)])), ((u10 2), .inl (k 1, 768, .inr (.inl (fun _ => 0)))), (q90_1, .inr (4, [.null, .null, .int 0, .int 0, .int 0]))] := hD
  refine lv_dup hx hb dX11_init_93 rfl ?_
  have hPc := hP.sub (ws' := [(q90_1, .inr (4, [.null, .null, .int 0, .int 0, .int 0]))]) [11] rfl
  have hDc := hD.sub (ws' := [(q90_1, .inr (4, [.null, .null, .int 0, .int 0, .int 0]))]) [11] (by decide) rfl
  have hFc := va_free (wc := [(q90_1, .inr (4, [.null, .null, .int 0, .int 0, .int 0]))]) hD hS hA [11] rfl
  refine va_callv (va_runIN (As := []) (rest := [.ref q90_1, .int 1, .ref q6]) ⟨hx, hb, hml, hown, hts⟩ (k_X1_init l D k e0 H.size q90_1) ⟨va_cnB 0 hts gX11_init_X1_init_n49 rfl rfl rfl hC.2.1.1 (hts (.initialized RX1) (by decide +kernel)) (by decide +kernel) ⟨Nat.le_of_ble_eq_true rfl, Nat.le_of_ble_eq_true rfl⟩, rfl, hts (.instanceMethod yX1_init) (by decide +kernel)⟩ ⟨mPc_fb, mPc_go hC hHf hS hPc hDc hFc⟩ rfl rfl hl.1 rfl (lv_room (Nat.le_of_ble_eq_true rfl)) dX11_init_94 ⟨Nat.le_of_ble_eq_true rfl, Nat.le_of_ble_eq_true rfl⟩) hS (fun q9 _ h9 => hFc q9 h9) hFc (fun u13 t H locs ht hvm hw_r14 hB hz1 hk1 hS => ?_)
  obtain ⟨hP1, hD1⟩ := hB
  rw [ht] at hP1
  obtain ⟨hP, hD⟩ := va_join (wr := [(to, .inr (12, [.ref q6, .ref q13, .ref q24, .ref q35, .ref q49, .ref q58, .int 0, .int 0, .int 0])), (q6, .inl (k 3, 4, .inr (.inr (.inr (.inr (va_up (fun _ => none) (0 : Int32).toNatClampNeg (some q90))))))), (q13, .inr (2, [.int 0, .ref e0, .int 0])), (q24, .inr (2, [.int 0, .ref e0, .int 0])), (q35, .inr (2, [.int 0, .ref e0, .int 0])), (q49, .inl (k 0, 768, .inl (fun _ => 0))), (q58, .inl (k 2, 2197, .inl (fun _ => 0))), (q90, .inr (4, [.ref (u10 0), .ref (u10 1), .int 0, .int 0, .int 0])), ((u10 0), .inl (k 0, 768, .inl (fun _ => 0))), ((u10 1), .inr (8, [.ref (u10 2), .int 1, .ref (u10 3)])), ((u10 2), .inl (k 1, 768, .inr (.inl (fun _ => 0))))]) (w1 := [(q90_1, .inr (4, [.ref (u13 0), .ref (u13 1), .int 0, .int 0, .int 0])), ((u13 0), .inl (k 0, 768, .inl (fun _ => 0))), ((u13 1), .inr (8, [.ref (u13 2), .int 1, .ref (u13 3)])), ((u13 2), .inl (k 1, 768, .inr (.inl (fun _ => 0))))]) hP hD [11] [0, 1, 2, 3, 4, 5, 6, 7, 8, 9, 10] rfl rfl (by decide) (by decide) hk1 hFc hP1 hD1
  have hP : va_P D vwCl [(to, .inr (12, [.ref q6, .ref q13, .ref q24, .ref q35, .ref q49, .ref q58, .int 0, .int 0, .int 0])), (q6, .inl (k 3, 4, .inr (.inr (.inr (.inr (va_up (fun _ => none) (0 : Int32).toNatClampNeg (some q90))))))), (q13, .inr (2, [.int 0, .ref e0, .int 0])), (q24, .inr (2, [.int 0, .ref e0, .int 0])), (q35, .inr (2, [.int 0, .ref e0, .int 0])), (q49, .inl (k 0, 768, .inl (fun _ => 0))), (q58, .inl (k 2, 2197, .inl (fun _ => 0))), (q90, .inr (4, [.ref (u10 0), .ref (u10 1), .int 0, .int 0, .int 0])), ((u10 0), .inl (k 0, 768, .inl (fun _ => 0))), ((u10 1), .inr (8, [.ref (u10 2), .int 1, .ref (u10 3)])), ((u10 2), .inl (k 1, 768, .inr (.inl (fun _ => 0)))), (q90_1, .inr (4, [.ref (u13 0), .ref (u13 1), .int 0, .int 0, .int 0])), ((u13 0), .inl (k 0, 768, .inl (fun _ => 0))), ((u13 1), .inr (8, [.ref (u13 2), .int 1, .ref (u13 3)])), ((u13 2), .inl (k 1, 768, .inr (.inl (fun _ => 0))))] H := hP
  have hD : va_D A [(to, .inr (12, [.ref q6, .ref q13, .ref q24, .ref q35, .ref q49, .ref q58, .int 0, .int 0, .int 0])), (q6, .inl (k 3, 4, .inr (.inr (.inr (.inr (va_up (fun _ => none) (0 : Int32).toNatClampNeg (some q90))))))), (q13, .inr (2, [.int 0, .ref e0, .int 0])), (q24, .inr (2, [.int 0, .ref e0, .int 0])), (q35, .inr (2, [.int 0, .ref e0, .int 0])), (q49, .inl (k 0, 768, .inl (fun _ => 0))), (q58, .inl (k 2, 2197, .inl (fun _ => 0))), (q90, .inr (4, [.ref (u10 0), .ref (u10 1), .int 0, .int 0, .int 0])), ((u10 0), .inl (k 0, 768, .inl (fun _ => 0))), ((u10 1), .inr (8, [.ref (u10 2), .int 1, .ref (u10 3)])), ((u10 2), .inl (k 1, 768, .inr (.inl (fun _ => 0)))), (q90_1, .inr (4, [.ref (u13 0), .ref (u13 1), .int 0, .int 0, .int 0])), ((u13 0), .inl (k 0, 768, .inl (fun _ => 0))), ((u13 1), .inr (8, [.ref (u13 2), .int 1, .ref (u13 3)])), ((u13 2), .inl (k 1, 768, .inr (.inl (fun _ => 0))))] := hD
  refine va_astq hx hb hC.1 hP hD hS 1 3 11 4 rfl rfl rfl rfl (vp_in_nI (n := 1) (N := 4) (by decide) (by decide)) dX11_init_97 (fun H locs hP hD hS => ?_)
  have hP : va_P D vwCl [(to, .inr (12, [.ref q6, .ref q13, .ref q24, .ref q35, .ref q49, .ref q58, .int 0, .int 0, .int 0])), (q6, .inl (k 3, 4, .inr (.inr (.inr (.inr (va_up (va_up (fun _ => none) (0 : Int32).toNatClampNeg (some q90)) (1 : Int32).toNatClampNeg (some q90_1))))))), (q13, .inr (2, [.int 0, .ref e0, .int 0])), (q24, .inr (2, [.int 0, .ref e0, .int 0])), (q35, .inr (2, [.int 0, .ref e0, .int 0])), (q49, .inl (k 0, 768, .inl (fun _ => 0))), (q58, .inl (k 2, 2197, .inl (fun _ => 0))), (q90, .inr (4, [.ref (u10 0), .ref (u10 1), .int 0, .int 0, .int 0])), ((u10 0), .inl (k 0, 768, .inl (fun _ => 0))), ((u10 1), .inr (8, [.ref (u10 2), .int 1, .ref (u10 3)])), ((u10 2), .inl (k 1, 768, .inr (.inl (fun _ => 0)))), (q90_1, .inr (4, [.ref (u13 0), .ref (u13 1), .int 0, .int 0, .int 0])), ((u13 0), .inl (k 0, 768, .inl (fun _ => 0))), ((u13 1), .inr (8, [.ref (u13 2), .int 1, .ref (u13 3)])), ((u13 2), .inl (k 1, 768, .inr (.inl (fun _ => 0))))] H := hP
  have hD : va_D A [(to, .inr (12, [.ref q6, .ref q13, .ref q24, .ref q35, .ref q49, .ref q58, .int 0, .int 0, .int 0])), (q6, .inl (k 3, 4, .inr (.inr (.inr (.inr (va_up (va_up (fun _ => none) (0 : Int32).toNatClampNeg (some q90)) (1 : Int32).toNatClampNeg (some q90_1))))))), (q13, .inr (2, [.int 0, .ref e0, .int 0])), (q24, .inr (2, [.int 0, .ref e0, .int 0])), (q35, .inr (2, [.int 0, .ref e0, .int 0])), (q49, .inl (k 0, 768, .inl (fun _ => 0))), (q58, .inl (k 2, 2197, .inl (fun _ => 0))), (q90, .inr (4, [.ref (u10 0), .ref (u10 1), .int 0, .int 0, .int 0])), ((u10 0), .inl (k 0, 768, .inl (fun _ => 0))), ((u10 1), .inr (8, [.ref (u10 2), .int 1, .ref (u10 3)])), ((u10 2), .inl (k 1, 768, .inr (.inl (fun _ => 0)))), (q90_1, .inr (4, [.ref (u13 0), .ref (u13 1), .int 0, .int 0, .int 0])), ((u13 0), .inl (k 0, 768, .inl (fun _ => 0))), ((u13 1), .inr (8, [.ref (u13 2), .int 1, .ref (u13 3)])), ((u13 2), .inl (k 1, 768, .inr (.inl (fun _ => 0))))] := hD
  refine lv_iinc (v := 2) (lv' := [(1, .int 2), (0, .ref to)]) hx hb dX11_init_98 hl (k := 0) rfl (by decide) (by decide) rfl (fun ls hl => ?_)
  refine lv_goto (tgt := 80) hx hb dX11_init_101 (by decide) ?_
  refine lv_iload_n hx hb dX11_init_80 rfl (lv_at hl 0 rfl) ?_
  refine lv_iconst (v := 4) hx hb dX11_init_81 (by decide) ?_
  refine lv_icmp_ge (tgt := 104) hx hb dX11_init_82 (by decide) (fun c_82_2 => absurd c_82_2 (by decide)) (fun c_82_2 => ?_)
  refine lv_aload_n hx hb dX11_init_85 rfl (lv_at hl 1 rfl) ?_
  refine va_get (D := D) (ci := 12) (v := .ref q6) (C := RX11) (T := TX11) (N := 9) hx hb hts (by decide +kernel) hown hC.1 hP 0 rfl rfl 0 (by decide) (hts (.fieldLink RX11 11 "Triplegarth" "graphs" "[LTriplegarth$Graph;") (by decide +kernel)) (fun _ h9 => h9) rfl dX11_init_86 ?_
  refine lv_iload_n hx hb dX11_init_89 rfl (lv_at hl 0 rfl) ?_
  refine va_new (ci := 4) (fs := [.null, .null, .int 0, .int 0, .int 0]) (C := RX1) (T := TX1) (N := 5) hx hb hts (by decide +kernel) tyX1 tyX1_ok hown (hts (.classLink RX11 9 RX1) (by decide +kernel)) (hts (.instantiable RX1 5) (by decide +kernel)) (hts (.initialized RX1) (by decide +kernel)) hC.1 hP hD hS hA rfl (fun j hj => by rcases (show j = 0 ∨ j = 1 ∨ j = 2 ∨ j = 3 ∨ j = 4 by omega) with rfl | rfl | rfl | rfl | rfl <;> rfl) (Nat.le_of_ble_eq_true rfl) (Nat.le_of_ble_eq_true rfl) dX11_init_90 (fun q90_2 H hP hD hS => ?_)
  have hP : va_P D vwCl [(to, .inr (12, [.ref q6, .ref q13, .ref q24, .ref q35, .ref q49, .ref q58, .int 0, .int 0, .int 0])), (q6, .inl (k 3, 4, .inr (.inr (.inr (.inr (va_up (va_up (fun _ => none) (0 : Int32).toNatClampNeg (some q90)) (1 : Int32).toNatClampNeg (some q90_1))))))), (q13, .inr (2, [.int 0, .ref e0, .int 0])), (q24, .inr (2, [.int 0, .ref e0, .int 0])), (q35, .inr (2, [.int 0, .ref e0, .int 0])), (q49, .inl (k 0, 768, .inl (fun _ => 0))), (q58, .inl (k 2, 2197, .inl (fun _ => 0))), (q90, .inr (4, [.ref (u10 0), .ref (u10 1), .int 0, .int 0, .int 0])), ((u10 0), .inl (k 0, 768, .inl (fun _ => 0))), ((u10 1), .inr (8, [.ref (u10 2), .int 1, .ref (u10 3)])), ((u10 2), .inl (k 1, 768, .inr (.inl (fun _ => 0)))), (q90_1, .inr (4, [.ref (u13 0), .ref (u13 1), .int 0, .int 0, .int 0])), ((u13 0), .inl (k 0, 768, .inl (fun _ => 0))), ((u13 1), .inr (8, [.ref (u13 2), .int 1, .ref (u13 3)])), ((u13 2), .inl (k 1, 768, .inr (.inl (fun _ => 0)))), (q90_2, .inr (4, [.null, .null, .int 0, .int 0, .int 0]))] H := hP
  have hD : va_D A [(to, .inr (12, [.ref q6, .ref q13, .ref q24, .ref q35, .ref q49, .ref q58, .int 0, .int 0, .int 0])), (q6, .inl (k 3, 4, .inr (.inr (.inr (.inr (va_up (va_up (fun _ => none) (0 : Int32).toNatClampNeg (some q90)) (1 : Int32).toNatClampNeg (some q90_1))))))), (q13, .inr (2, [.int 0, .ref e0, .int 0])), (q24, .inr (2, [.int 0, .ref e0, .int 0])), (q35, .inr (2, [.int 0, .ref e0, .int 0])), (q49, .inl (k 0, 768, .inl (fun _ => 0))), (q58, .inl (k 2, 2197, .inl (fun _ => 0))), (q90, .inr (4, [.ref (u10 0), .ref (u10 1), .int 0, .int 0, .int 0])), ((u10 0), .inl (k 0, 768, .inl (fun _ => 0))), ((u10 1), .inr (8, [.ref (u10 2), .int 1, .ref (u10 3)])), ((u10 2), .inl (k 1, 768, .inr (.inl (fun _ => 0)))), (q90_1, .inr (4, [.ref (u13 0), .ref (u13 1), .int 0, .int 0, .int 0])), ((u13 0), .inl (k 0, 768, .inl (fun _ => 0))), ((u13 1), .inr (8, [.ref (u13 2), .int 1, .ref (u13 3)])), ((u13 2), .inl (k 1, 768, .inr (.inl (fun _ => 0)))), (q90_2, .inr (4, [.null, .null, .int 0, .int 0, .int 0]))] := hD
  refine lv_dup hx hb dX11_init_93 rfl ?_
  have hPc := hP.sub (ws' := [(q90_2, .inr (4, [.null, .null, .int 0, .int 0, .int 0]))]) [15] rfl
  have hDc := hD.sub (ws' := [(q90_2, .inr (4, [.null, .null, .int 0, .int 0, .int 0]))]) [15] (by decide) rfl
  have hFc := va_free (wc := [(q90_2, .inr (4, [.null, .null, .int 0, .int 0, .int 0]))]) hD hS hA [15] rfl
  refine va_callv (va_runIN (As := []) (rest := [.ref q90_2, .int 2, .ref q6]) ⟨hx, hb, hml, hown, hts⟩ (k_X1_init l D k e0 H.size q90_2) ⟨va_cnB 0 hts gX11_init_X1_init_n49 rfl rfl rfl hC.2.1.1 (hts (.initialized RX1) (by decide +kernel)) (by decide +kernel) ⟨Nat.le_of_ble_eq_true rfl, Nat.le_of_ble_eq_true rfl⟩, rfl, hts (.instanceMethod yX1_init) (by decide +kernel)⟩ ⟨mPc_fb, mPc_go hC hHf hS hPc hDc hFc⟩ rfl rfl hl.1 rfl (lv_room (Nat.le_of_ble_eq_true rfl)) dX11_init_94 ⟨Nat.le_of_ble_eq_true rfl, Nat.le_of_ble_eq_true rfl⟩) hS (fun q9 _ h9 => hFc q9 h9) hFc (fun u16 t H locs ht hvm hw_r17 hB hz1 hk1 hS => ?_)
  obtain ⟨hP1, hD1⟩ := hB
  rw [ht] at hP1
  obtain ⟨hP, hD⟩ := va_join (wr := [(to, .inr (12, [.ref q6, .ref q13, .ref q24, .ref q35, .ref q49, .ref q58, .int 0, .int 0, .int 0])), (q6, .inl (k 3, 4, .inr (.inr (.inr (.inr (va_up (va_up (fun _ => none) (0 : Int32).toNatClampNeg (some q90)) (1 : Int32).toNatClampNeg (some q90_1))))))), (q13, .inr (2, [.int 0, .ref e0, .int 0])), (q24, .inr (2, [.int 0, .ref e0, .int 0])), (q35, .inr (2, [.int 0, .ref e0, .int 0])), (q49, .inl (k 0, 768, .inl (fun _ => 0))), (q58, .inl (k 2, 2197, .inl (fun _ => 0))), (q90, .inr (4, [.ref (u10 0), .ref (u10 1), .int 0, .int 0, .int 0])), ((u10 0), .inl (k 0, 768, .inl (fun _ => 0))), ((u10 1), .inr (8, [.ref (u10 2), .int 1, .ref (u10 3)])), ((u10 2), .inl (k 1, 768, .inr (.inl (fun _ => 0)))), (q90_1, .inr (4, [.ref (u13 0), .ref (u13 1), .int 0, .int 0, .int 0])), ((u13 0), .inl (k 0, 768, .inl (fun _ => 0))), ((u13 1), .inr (8, [.ref (u13 2), .int 1, .ref (u13 3)])), ((u13 2), .inl (k 1, 768, .inr (.inl (fun _ => 0))))]) (w1 := [(q90_2, .inr (4, [.ref (u16 0), .ref (u16 1), .int 0, .int 0, .int 0])), ((u16 0), .inl (k 0, 768, .inl (fun _ => 0))), ((u16 1), .inr (8, [.ref (u16 2), .int 1, .ref (u16 3)])), ((u16 2), .inl (k 1, 768, .inr (.inl (fun _ => 0))))]) hP hD [15] [0, 1, 2, 3, 4, 5, 6, 7, 8, 9, 10, 11, 12, 13, 14] rfl rfl (by decide) (by decide) hk1 hFc hP1 hD1
  have hP : va_P D vwCl [(to, .inr (12, [.ref q6, .ref q13, .ref q24, .ref q35, .ref q49, .ref q58, .int 0, .int 0, .int 0])), (q6, .inl (k 3, 4, .inr (.inr (.inr (.inr (va_up (va_up (fun _ => none) (0 : Int32).toNatClampNeg (some q90)) (1 : Int32).toNatClampNeg (some q90_1))))))), (q13, .inr (2, [.int 0, .ref e0, .int 0])), (q24, .inr (2, [.int 0, .ref e0, .int 0])), (q35, .inr (2, [.int 0, .ref e0, .int 0])), (q49, .inl (k 0, 768, .inl (fun _ => 0))), (q58, .inl (k 2, 2197, .inl (fun _ => 0))), (q90, .inr (4, [.ref (u10 0), .ref (u10 1), .int 0, .int 0, .int 0])), ((u10 0), .inl (k 0, 768, .inl (fun _ => 0))), ((u10 1), .inr (8, [.ref (u10 2), .int 1, .ref (u10 3)])), ((u10 2), .inl (k 1, 768, .inr (.inl (fun _ => 0)))), (q90_1, .inr (4, [.ref (u13 0), .ref (u13 1), .int 0, .int 0, .int 0])), ((u13 0), .inl (k 0, 768, .inl (fun _ => 0))), ((u13 1), .inr (8, [.ref (u13 2), .int 1, .ref (u13 3)])), ((u13 2), .inl (k 1, 768, .inr (.inl (fun _ => 0)))), (q90_2, .inr (4, [.ref (u16 0), .ref (u16 1), .int 0, .int 0, .int 0])), ((u16 0), .inl (k 0, 768, .inl (fun _ => 0))), ((u16 1), .inr (8, [.ref (u16 2), .int 1, .ref (u16 3)])), ((u16 2), .inl (k 1, 768, .inr (.inl (fun _ => 0))))] H := hP
  have hD : va_D A [(to, .inr (12, [.ref q6, .ref q13, .ref q24, .ref q35, .ref q49, .ref q58, .int 0, .int 0, .int 0])), (q6, .inl (k 3, 4, .inr (.inr (.inr (.inr (va_up (va_up (fun _ => none) (0 : Int32).toNatClampNeg (some q90)) (1 : Int32).toNatClampNeg (some q90_1))))))), (q13, .inr (2, [.int 0, .ref e0, .int 0])), (q24, .inr (2, [.int 0, .ref e0, .int 0])), (q35, .inr (2, [.int 0, .ref e0, .int 0])), (q49, .inl (k 0, 768, .inl (fun _ => 0))), (q58, .inl (k 2, 2197, .inl (fun _ => 0))), (q90, .inr (4, [.ref (u10 0), .ref (u10 1), .int 0, .int 0, .int 0])), ((u10 0), .inl (k 0, 768, .inl (fun _ => 0))), ((u10 1), .inr (8, [.ref (u10 2), .int 1, .ref (u10 3)])), ((u10 2), .inl (k 1, 768, .inr (.inl (fun _ => 0)))), (q90_1, .inr (4, [.ref (u13 0), .ref (u13 1), .int 0, .int 0, .int 0])), ((u13 0), .inl (k 0, 768, .inl (fun _ => 0))), ((u13 1), .inr (8, [.ref (u13 2), .int 1, .ref (u13 3)])), ((u13 2), .inl (k 1, 768, .inr (.inl (fun _ => 0)))), (q90_2, .inr (4, [.ref (u16 0), .ref (u16 1), .int 0, .int 0, .int 0])), ((u16 0), .inl (k 0, 768, .inl (fun _ => 0))), ((u16 1), .inr (8, [.ref (u16 2), .int 1, .ref (u16 3)])), ((u16 2), .inl (k 1, 768, .inr (.inl (fun _ => 0))))] := hD
  refine va_astq hx hb hC.1 hP hD hS 1 3 15 4 rfl rfl rfl rfl (vp_in_nI (n := 2) (N := 4) (by decide) (by decide)) dX11_init_97 (fun H locs hP hD hS => ?_)
  have hP : va_P D vwCl [(to, .inr (12, [.ref q6, .ref q13, .ref q24, .ref q35, .ref q49, .ref q58, .int 0, .int 0, .int 0])), (q6, .inl (k 3, 4, .inr (.inr (.inr (.inr (va_up (va_up (va_up (fun _ => none) (0 : Int32).toNatClampNeg (some q90)) (1 : Int32).toNatClampNeg (some q90_1)) (2 : Int32).toNatClampNeg (some q90_2))))))), (q13, .inr (2, [.int 0, .ref e0, .int 0])), (q24, .inr (2, [.int 0, .ref e0, .int 0])), (q35, .inr (2, [.int 0, .ref e0, .int 0])), (q49, .inl (k 0, 768, .inl (fun _ => 0))), (q58, .inl (k 2, 2197, .inl (fun _ => 0))), (q90, .inr (4, [.ref (u10 0), .ref (u10 1), .int 0, .int 0, .int 0])), ((u10 0), .inl (k 0, 768, .inl (fun _ => 0))), ((u10 1), .inr (8, [.ref (u10 2), .int 1, .ref (u10 3)])), ((u10 2), .inl (k 1, 768, .inr (.inl (fun _ => 0)))), (q90_1, .inr (4, [.ref (u13 0), .ref (u13 1), .int 0, .int 0, .int 0])), ((u13 0), .inl (k 0, 768, .inl (fun _ => 0))), ((u13 1), .inr (8, [.ref (u13 2), .int 1, .ref (u13 3)])), ((u13 2), .inl (k 1, 768, .inr (.inl (fun _ => 0)))), (q90_2, .inr (4, [.ref (u16 0), .ref (u16 1), .int 0, .int 0, .int 0])), ((u16 0), .inl (k 0, 768, .inl (fun _ => 0))), ((u16 1), .inr (8, [.ref (u16 2), .int 1, .ref (u16 3)])), ((u16 2), .inl (k 1, 768, .inr (.inl (fun _ => 0))))] H := hP
  have hD : va_D A [(to, .inr (12, [.ref q6, .ref q13, .ref q24, .ref q35, .ref q49, .ref q58, .int 0, .int 0, .int 0])), (q6, .inl (k 3, 4, .inr (.inr (.inr (.inr (va_up (va_up (va_up (fun _ => none) (0 : Int32).toNatClampNeg (some q90)) (1 : Int32).toNatClampNeg (some q90_1)) (2 : Int32).toNatClampNeg (some q90_2))))))), (q13, .inr (2, [.int 0, .ref e0, .int 0])), (q24, .inr (2, [.int 0, .ref e0, .int 0])), (q35, .inr (2, [.int 0, .ref e0, .int 0])), (q49, .inl (k 0, 768, .inl (fun _ => 0))), (q58, .inl (k 2, 2197, .inl (fun _ => 0))), (q90, .inr (4, [.ref (u10 0), .ref (u10 1), .int 0, .int 0, .int 0])), ((u10 0), .inl (k 0, 768, .inl (fun _ => 0))), ((u10 1), .inr (8, [.ref (u10 2), .int 1, .ref (u10 3)])), ((u10 2), .inl (k 1, 768, .inr (.inl (fun _ => 0)))), (q90_1, .inr (4, [.ref (u13 0), .ref (u13 1), .int 0, .int 0, .int 0])), ((u13 0), .inl (k 0, 768, .inl (fun _ => 0))), ((u13 1), .inr (8, [.ref (u13 2), .int 1, .ref (u13 3)])), ((u13 2), .inl (k 1, 768, .inr (.inl (fun _ => 0)))), (q90_2, .inr (4, [.ref (u16 0), .ref (u16 1), .int 0, .int 0, .int 0])), ((u16 0), .inl (k 0, 768, .inl (fun _ => 0))), ((u16 1), .inr (8, [.ref (u16 2), .int 1, .ref (u16 3)])), ((u16 2), .inl (k 1, 768, .inr (.inl (fun _ => 0))))] := hD
  refine lv_iinc (v := 3) (lv' := [(1, .int 3), (0, .ref to)]) hx hb dX11_init_98 hl (k := 0) rfl (by decide) (by decide) rfl (fun ls hl => ?_)
  refine lv_goto (tgt := 80) hx hb dX11_init_101 (by decide) ?_
  refine lv_iload_n hx hb dX11_init_80 rfl (lv_at hl 0 rfl) ?_
  refine lv_iconst (v := 4) hx hb dX11_init_81 (by decide) ?_
  refine lv_icmp_ge (tgt := 104) hx hb dX11_init_82 (by decide) (fun c_82_3 => absurd c_82_3 (by decide)) (fun c_82_3 => ?_)
  refine lv_aload_n hx hb dX11_init_85 rfl (lv_at hl 1 rfl) ?_
  refine va_get (D := D) (ci := 12) (v := .ref q6) (C := RX11) (T := TX11) (N := 9) hx hb hts (by decide +kernel) hown hC.1 hP 0 rfl rfl 0 (by decide) (hts (.fieldLink RX11 11 "Triplegarth" "graphs" "[LTriplegarth$Graph;") (by decide +kernel)) (fun _ h9 => h9) rfl dX11_init_86 ?_
  refine lv_iload_n hx hb dX11_init_89 rfl (lv_at hl 0 rfl) ?_
  refine va_new (ci := 4) (fs := [.null, .null, .int 0, .int 0, .int 0]) (C := RX1) (T := TX1) (N := 5) hx hb hts (by decide +kernel) tyX1 tyX1_ok hown (hts (.classLink RX11 9 RX1) (by decide +kernel)) (hts (.instantiable RX1 5) (by decide +kernel)) (hts (.initialized RX1) (by decide +kernel)) hC.1 hP hD hS hA rfl (fun j hj => by rcases (show j = 0 ∨ j = 1 ∨ j = 2 ∨ j = 3 ∨ j = 4 by omega) with rfl | rfl | rfl | rfl | rfl <;> rfl) (Nat.le_of_ble_eq_true rfl) (Nat.le_of_ble_eq_true rfl) dX11_init_90 (fun q90_3 H hP hD hS => ?_)
  have hP : va_P D vwCl [(to, .inr (12, [.ref q6, .ref q13, .ref q24, .ref q35, .ref q49, .ref q58, .int 0, .int 0, .int 0])), (q6, .inl (k 3, 4, .inr (.inr (.inr (.inr (va_up (va_up (va_up (fun _ => none) (0 : Int32).toNatClampNeg (some q90)) (1 : Int32).toNatClampNeg (some q90_1)) (2 : Int32).toNatClampNeg (some q90_2))))))), (q13, .inr (2, [.int 0, .ref e0, .int 0])), (q24, .inr (2, [.int 0, .ref e0, .int 0])), (q35, .inr (2, [.int 0, .ref e0, .int 0])), (q49, .inl (k 0, 768, .inl (fun _ => 0))), (q58, .inl (k 2, 2197, .inl (fun _ => 0))), (q90, .inr (4, [.ref (u10 0), .ref (u10 1), .int 0, .int 0, .int 0])), ((u10 0), .inl (k 0, 768, .inl (fun _ => 0))), ((u10 1), .inr (8, [.ref (u10 2), .int 1, .ref (u10 3)])), ((u10 2), .inl (k 1, 768, .inr (.inl (fun _ => 0)))), (q90_1, .inr (4, [.ref (u13 0), .ref (u13 1), .int 0, .int 0, .int 0])), ((u13 0), .inl (k 0, 768, .inl (fun _ => 0))), ((u13 1), .inr (8, [.ref (u13 2), .int 1, .ref (u13 3)])), ((u13 2), .inl (k 1, 768, .inr (.inl (fun _ => 0)))), (q90_2, .inr (4, [.ref (u16 0), .ref (u16 1), .int 0, .int 0, .int 0])), ((u16 0), .inl (k 0, 768, .inl (fun _ => 0))), ((u16 1), .inr (8, [.ref (u16 2), .int 1, .ref (u16 3)])), ((u16 2), .inl (k 1, 768, .inr (.inl (fun _ => 0)))), (q90_3, .inr (4, [.null, .null, .int 0, .int 0, .int 0]))] H := hP
  have hD : va_D A [(to, .inr (12, [.ref q6, .ref q13, .ref q24, .ref q35, .ref q49, .ref q58, .int 0, .int 0, .int 0])), (q6, .inl (k 3, 4, .inr (.inr (.inr (.inr (va_up (va_up (va_up (fun _ => none) (0 : Int32).toNatClampNeg (some q90)) (1 : Int32).toNatClampNeg (some q90_1)) (2 : Int32).toNatClampNeg (some q90_2))))))), (q13, .inr (2, [.int 0, .ref e0, .int 0])), (q24, .inr (2, [.int 0, .ref e0, .int 0])), (q35, .inr (2, [.int 0, .ref e0, .int 0])), (q49, .inl (k 0, 768, .inl (fun _ => 0))), (q58, .inl (k 2, 2197, .inl (fun _ => 0))), (q90, .inr (4, [.ref (u10 0), .ref (u10 1), .int 0, .int 0, .int 0])), ((u10 0), .inl (k 0, 768, .inl (fun _ => 0))), ((u10 1), .inr (8, [.ref (u10 2), .int 1, .ref (u10 3)])), ((u10 2), .inl (k 1, 768, .inr (.inl (fun _ => 0)))), (q90_1, .inr (4, [.ref (u13 0), .ref (u13 1), .int 0, .int 0, .int 0])), ((u13 0), .inl (k 0, 768, .inl (fun _ => 0))), ((u13 1), .inr (8, [.ref (u13 2), .int 1, .ref (u13 3)])), ((u13 2), .inl (k 1, 768, .inr (.inl (fun _ => 0)))), (q90_2, .inr (4, [.ref (u16 0), .ref (u16 1), .int 0, .int 0, .int 0])), ((u16 0), .inl (k 0, 768, .inl (fun _ => 0))), ((u16 1), .inr (8, [.ref (u16 2), .int 1, .ref (u16 3)])), ((u16 2), .inl (k 1, 768, .inr (.inl (fun _ => 0)))), (q90_3, .inr (4, [.null, .null, .int 0, .int 0, .int 0]))] := hD
  refine lv_dup hx hb dX11_init_93 rfl ?_
  have hPc := hP.sub (ws' := [(q90_3, .inr (4, [.null, .null, .int 0, .int 0, .int 0]))]) [19] rfl
  have hDc := hD.sub (ws' := [(q90_3, .inr (4, [.null, .null, .int 0, .int 0, .int 0]))]) [19] (by decide) rfl
  have hFc := va_free (wc := [(q90_3, .inr (4, [.null, .null, .int 0, .int 0, .int 0]))]) hD hS hA [19] rfl
  refine va_callv (va_runIN (As := []) (rest := [.ref q90_3, .int 3, .ref q6]) ⟨hx, hb, hml, hown, hts⟩ (k_X1_init l D k e0 H.size q90_3) ⟨va_cnB 0 hts gX11_init_X1_init_n49 rfl rfl rfl hC.2.1.1 (hts (.initialized RX1) (by decide +kernel)) (by decide +kernel) ⟨Nat.le_of_ble_eq_true rfl, Nat.le_of_ble_eq_true rfl⟩, rfl, hts (.instanceMethod yX1_init) (by decide +kernel)⟩ ⟨mPc_fb, mPc_go hC hHf hS hPc hDc hFc⟩ rfl rfl hl.1 rfl (lv_room (Nat.le_of_ble_eq_true rfl)) dX11_init_94 ⟨Nat.le_of_ble_eq_true rfl, Nat.le_of_ble_eq_true rfl⟩) hS (fun q9 _ h9 => hFc q9 h9) hFc (fun u19 t H locs ht hvm hw_r20 hB hz1 hk1 hS => ?_)
  obtain ⟨hP1, hD1⟩ := hB
  rw [ht] at hP1
  obtain ⟨hP, hD⟩ := va_join (wr := [(to, .inr (12, [.ref q6, .ref q13, .ref q24, .ref q35, .ref q49, .ref q58, .int 0, .int 0, .int 0])), (q6, .inl (k 3, 4, .inr (.inr (.inr (.inr (va_up (va_up (va_up (fun _ => none) (0 : Int32).toNatClampNeg (some q90)) (1 : Int32).toNatClampNeg (some q90_1)) (2 : Int32).toNatClampNeg (some q90_2))))))), (q13, .inr (2, [.int 0, .ref e0, .int 0])), (q24, .inr (2, [.int 0, .ref e0, .int 0])), (q35, .inr (2, [.int 0, .ref e0, .int 0])), (q49, .inl (k 0, 768, .inl (fun _ => 0))), (q58, .inl (k 2, 2197, .inl (fun _ => 0))), (q90, .inr (4, [.ref (u10 0), .ref (u10 1), .int 0, .int 0, .int 0])), ((u10 0), .inl (k 0, 768, .inl (fun _ => 0))), ((u10 1), .inr (8, [.ref (u10 2), .int 1, .ref (u10 3)])), ((u10 2), .inl (k 1, 768, .inr (.inl (fun _ => 0)))), (q90_1, .inr (4, [.ref (u13 0), .ref (u13 1), .int 0, .int 0, .int 0])), ((u13 0), .inl (k 0, 768, .inl (fun _ => 0))), ((u13 1), .inr (8, [.ref (u13 2), .int 1, .ref (u13 3)])), ((u13 2), .inl (k 1, 768, .inr (.inl (fun _ => 0)))), (q90_2, .inr (4, [.ref (u16 0), .ref (u16 1), .int 0, .int 0, .int 0])), ((u16 0), .inl (k 0, 768, .inl (fun _ => 0))), ((u16 1), .inr (8, [.ref (u16 2), .int 1, .ref (u16 3)])), ((u16 2), .inl (k 1, 768, .inr (.inl (fun _ => 0))))]) (w1 := [(q90_3, .inr (4, [.ref (u19 0), .ref (u19 1), .int 0, .int 0, .int 0])), ((u19 0), .inl (k 0, 768, .inl (fun _ => 0))), ((u19 1), .inr (8, [.ref (u19 2), .int 1, .ref (u19 3)])), ((u19 2), .inl (k 1, 768, .inr (.inl (fun _ => 0))))]) hP hD [19] [0, 1, 2, 3, 4, 5, 6, 7, 8, 9, 10, 11, 12, 13, 14, 15, 16, 17, 18] rfl rfl (by decide) (by decide) hk1 hFc hP1 hD1
  have hP : va_P D vwCl [(to, .inr (12, [.ref q6, .ref q13, .ref q24, .ref q35, .ref q49, .ref q58, .int 0, .int 0, .int 0])), (q6, .inl (k 3, 4, .inr (.inr (.inr (.inr (va_up (va_up (va_up (fun _ => none) (0 : Int32).toNatClampNeg (some q90)) (1 : Int32).toNatClampNeg (some q90_1)) (2 : Int32).toNatClampNeg (some q90_2))))))), (q13, .inr (2, [.int 0, .ref e0, .int 0])), (q24, .inr (2, [.int 0, .ref e0, .int 0])), (q35, .inr (2, [.int 0, .ref e0, .int 0])), (q49, .inl (k 0, 768, .inl (fun _ => 0))), (q58, .inl (k 2, 2197, .inl (fun _ => 0))), (q90, .inr (4, [.ref (u10 0), .ref (u10 1), .int 0, .int 0, .int 0])), ((u10 0), .inl (k 0, 768, .inl (fun _ => 0))), ((u10 1), .inr (8, [.ref (u10 2), .int 1, .ref (u10 3)])), ((u10 2), .inl (k 1, 768, .inr (.inl (fun _ => 0)))), (q90_1, .inr (4, [.ref (u13 0), .ref (u13 1), .int 0, .int 0, .int 0])), ((u13 0), .inl (k 0, 768, .inl (fun _ => 0))), ((u13 1), .inr (8, [.ref (u13 2), .int 1, .ref (u13 3)])), ((u13 2), .inl (k 1, 768, .inr (.inl (fun _ => 0)))), (q90_2, .inr (4, [.ref (u16 0), .ref (u16 1), .int 0, .int 0, .int 0])), ((u16 0), .inl (k 0, 768, .inl (fun _ => 0))), ((u16 1), .inr (8, [.ref (u16 2), .int 1, .ref (u16 3)])), ((u16 2), .inl (k 1, 768, .inr (.inl (fun _ => 0)))), (q90_3, .inr (4, [.ref (u19 0), .ref (u19 1), .int 0, .int 0, .int 0])), ((u19 0), .inl (k 0, 768, .inl (fun _ => 0))), ((u19 1), .inr (8, [.ref (u19 2), .int 1, .ref (u19 3)])), ((u19 2), .inl (k 1, 768, .inr (.inl (fun _ => 0))))] H := hP
  have hD : va_D A [(to, .inr (12, [.ref q6, .ref q13, .ref q24, .ref q35, .ref q49, .ref q58, .int 0, .int 0, .int 0])), (q6, .inl (k 3, 4, .inr (.inr (.inr (.inr (va_up (va_up (va_up (fun _ => none) (0 : Int32).toNatClampNeg (some q90)) (1 : Int32).toNatClampNeg (some q90_1)) (2 : Int32).toNatClampNeg (some q90_2))))))), (q13, .inr (2, [.int 0, .ref e0, .int 0])), (q24, .inr (2, [.int 0, .ref e0, .int 0])), (q35, .inr (2, [.int 0, .ref e0, .int 0])), (q49, .inl (k 0, 768, .inl (fun _ => 0))), (q58, .inl (k 2, 2197, .inl (fun _ => 0))), (q90, .inr (4, [.ref (u10 0), .ref (u10 1), .int 0, .int 0, .int 0])), ((u10 0), .inl (k 0, 768, .inl (fun _ => 0))), ((u10 1), .inr (8, [.ref (u10 2), .int 1, .ref (u10 3)])), ((u10 2), .inl (k 1, 768, .inr (.inl (fun _ => 0)))), (q90_1, .inr (4, [.ref (u13 0), .ref (u13 1), .int 0, .int 0, .int 0])), ((u13 0), .inl (k 0, 768, .inl (fun _ => 0))), ((u13 1), .inr (8, [.ref (u13 2), .int 1, .ref (u13 3)])), ((u13 2), .inl (k 1, 768, .inr (.inl (fun _ => 0)))), (q90_2, .inr (4, [.ref (u16 0), .ref (u16 1), .int 0, .int 0, .int 0])), ((u16 0), .inl (k 0, 768, .inl (fun _ => 0))), ((u16 1), .inr (8, [.ref (u16 2), .int 1, .ref (u16 3)])), ((u16 2), .inl (k 1, 768, .inr (.inl (fun _ => 0)))), (q90_3, .inr (4, [.ref (u19 0), .ref (u19 1), .int 0, .int 0, .int 0])), ((u19 0), .inl (k 0, 768, .inl (fun _ => 0))), ((u19 1), .inr (8, [.ref (u19 2), .int 1, .ref (u19 3)])), ((u19 2), .inl (k 1, 768, .inr (.inl (fun _ => 0))))] := hD
  refine va_astq hx hb hC.1 hP hD hS 1 3 19 4 rfl rfl rfl rfl (vp_in_nI (n := 3) (N := 4) (by decide) (by decide)) dX11_init_97 (fun H locs hP hD hS => ?_)
  have hP : va_P D vwCl [(to, .inr (12, [.ref q6, .ref q13, .ref q24, .ref q35, .ref q49, .ref q58, .int 0, .int 0, .int 0])), (q6, .inl (k 3, 4, .inr (.inr (.inr (.inr (va_up (va_up (va_up (va_up (fun _ => none) (0 : Int32).toNatClampNeg (some q90)) (1 : Int32).toNatClampNeg (some q90_1)) (2 : Int32).toNatClampNeg (some q90_2)) (3 : Int32).toNatClampNeg (some q90_3))))))), (q13, .inr (2, [.int 0, .ref e0, .int 0])), (q24, .inr (2, [.int 0, .ref e0, .int 0])), (q35, .inr (2, [.int 0, .ref e0, .int 0])), (q49, .inl (k 0, 768, .inl (fun _ => 0))), (q58, .inl (k 2, 2197, .inl (fun _ => 0))), (q90, .inr (4, [.ref (u10 0), .ref (u10 1), .int 0, .int 0, .int 0])), ((u10 0), .inl (k 0, 768, .inl (fun _ => 0))), ((u10 1), .inr (8, [.ref (u10 2), .int 1, .ref (u10 3)])), ((u10 2), .inl (k 1, 768, .inr (.inl (fun _ => 0)))), (q90_1, .inr (4, [.ref (u13 0), .ref (u13 1), .int 0, .int 0, .int 0])), ((u13 0), .inl (k 0, 768, .inl (fun _ => 0))), ((u13 1), .inr (8, [.ref (u13 2), .int 1, .ref (u13 3)])), ((u13 2), .inl (k 1, 768, .inr (.inl (fun _ => 0)))), (q90_2, .inr (4, [.ref (u16 0), .ref (u16 1), .int 0, .int 0, .int 0])), ((u16 0), .inl (k 0, 768, .inl (fun _ => 0))), ((u16 1), .inr (8, [.ref (u16 2), .int 1, .ref (u16 3)])), ((u16 2), .inl (k 1, 768, .inr (.inl (fun _ => 0)))), (q90_3, .inr (4, [.ref (u19 0), .ref (u19 1), .int 0, .int 0, .int 0])), ((u19 0), .inl (k 0, 768, .inl (fun _ => 0))), ((u19 1), .inr (8, [.ref (u19 2), .int 1, .ref (u19 3)])), ((u19 2), .inl (k 1, 768, .inr (.inl (fun _ => 0))))] H := hP
  have hD : va_D A [(to, .inr (12, [.ref q6, .ref q13, .ref q24, .ref q35, .ref q49, .ref q58, .int 0, .int 0, .int 0])), (q6, .inl (k 3, 4, .inr (.inr (.inr (.inr (va_up (va_up (va_up (va_up (fun _ => none) (0 : Int32).toNatClampNeg (some q90)) (1 : Int32).toNatClampNeg (some q90_1)) (2 : Int32).toNatClampNeg (some q90_2)) (3 : Int32).toNatClampNeg (some q90_3))))))), (q13, .inr (2, [.int 0, .ref e0, .int 0])), (q24, .inr (2, [.int 0, .ref e0, .int 0])), (q35, .inr (2, [.int 0, .ref e0, .int 0])), (q49, .inl (k 0, 768, .inl (fun _ => 0))), (q58, .inl (k 2, 2197, .inl (fun _ => 0))), (q90, .inr (4, [.ref (u10 0), .ref (u10 1), .int 0, .int 0, .int 0])), ((u10 0), .inl (k 0, 768, .inl (fun _ => 0))), ((u10 1), .inr (8, [.ref (u10 2), .int 1, .ref (u10 3)])), ((u10 2), .inl (k 1, 768, .inr (.inl (fun _ => 0)))), (q90_1, .inr (4, [.ref (u13 0), .ref (u13 1), .int 0, .int 0, .int 0])), ((u13 0), .inl (k 0, 768, .inl (fun _ => 0))), ((u13 1), .inr (8, [.ref (u13 2), .int 1, .ref (u13 3)])), ((u13 2), .inl (k 1, 768, .inr (.inl (fun _ => 0)))), (q90_2, .inr (4, [.ref (u16 0), .ref (u16 1), .int 0, .int 0, .int 0])), ((u16 0), .inl (k 0, 768, .inl (fun _ => 0))), ((u16 1), .inr (8, [.ref (u16 2), .int 1, .ref (u16 3)])), ((u16 2), .inl (k 1, 768, .inr (.inl (fun _ => 0)))), (q90_3, .inr (4, [.ref (u19 0), .ref (u19 1), .int 0, .int 0, .int 0])), ((u19 0), .inl (k 0, 768, .inl (fun _ => 0))), ((u19 1), .inr (8, [.ref (u19 2), .int 1, .ref (u19 3)])), ((u19 2), .inl (k 1, 768, .inr (.inl (fun _ => 0))))] := hD
  refine lv_iinc (v := 4) (lv' := [(1, .int 4), (0, .ref to)]) hx hb dX11_init_98 hl (k := 0) rfl (by decide) (by decide) rfl (fun ls hl => ?_)
  refine lv_goto (tgt := 80) hx hb dX11_init_101 (by decide) ?_
  refine lv_iload_n hx hb dX11_init_80 rfl (lv_at hl 0 rfl) ?_
  refine lv_iconst (v := 4) hx hb dX11_init_81 (by decide) ?_
  refine lv_icmp_ge (tgt := 104) hx hb dX11_init_82 (by decide) (fun c_82_4 => ?_) (fun c_82_4 => absurd (by decide) c_82_4)
  exact W.vret hx hb hr (fun t ht hW => ⟨⟨(fun i => [q6, q13, q24, q35, q49, q58, q90, q90_1, q90_2, q90_3, u10 0, u13 0, u16 0, u19 0, u10 1, u13 1, u16 1, u19 1, u10 2, u13 2, u16 2, u19 2, u10 3, u13 3, u16 3, u19 3].getD i 0), rfl, trivial, ⟨by rw [ht]; exact (w_refs (g := fun i => some ((fun i => [q6, q13, q24, q35, q49, q58, q90, q90_1, q90_2, q90_3, u10 0, u13 0, u16 0, u19 0, u10 1, u13 1, u16 1, u19 1, u10 2, u13 2, u16 2, u19 2, u10 3, u13 3, u16 3, u19 3].getD i 0) (6 + i))) hP 1 rfl (fun i hi => by match i, hi with | 0, _ => rfl | 1, _ => rfl | 2, _ => rfl | 3, _ => rfl)).sub [0, 1, 2, 3, 4, 7, 8, 9, 10, 11, 12, 13, 14, 15, 16, 17, 18, 19, 20, 21, 22] rfl, (hD.set (p := 1) (e := .inl (k 3, 4, .inr (.inr (.inr (.inr (fun i => some ((fun i => [q6, q13, q24, q35, q49, q58, q90, q90_1, q90_2, q90_3, u10 0, u13 0, u16 0, u19 0, u10 1, u13 1, u16 1, u19 1, u10 2, u13 2, u16 2, u19 2, u10 3, u13 3, u16 3, u19 3].getD i 0) (6 + i)))))))) rfl).sub [0, 1, 2, 3, 4, 7, 8, 9, 10, 11, 12, 13, 14, 15, 16, 17, 18, 19, 20, 21, 22] (by decide) rfl⟩⟩, hS.F ht⟩) hS.2.2 dX11_init_104

set_option maxHeartbeats 4000000 in
set_option maxRecDepth 100000 in
theorem k_X12_has (l : Launch) (D : va_G) (k : Nat → ClassId) (h0 : Heap) (mo : Nat) (w : Nat → Nat) (j i : Nat) (hP : va_P D vwCl (wM k mo w 0) h0) (hj : j < 4) (hi : i < 768) : Met l yX12_has wsX12_has ({ frames := 0, cells := 0, slots := 0, locals := 0 }) (pPc D k [.ref mo, .int (nI j), .int (nI i)] h0) (va_Qi (fun r (_ : Unit) => r = 0) (fun _ t => t.heap = h0) (fun _ => False)) 0 0 (fun _ => False) := by
  refine Met.ofW (cc := cX12_has) (maxL := 3) (ret := (some .boolean)) (by decide) rfl ?_
  intro p e s m args below meth c s₁ B hml hv
  obtain ⟨rfl, rfl, hC⟩ := hv
  have hx := B.exec
  have hb := B.bytes
  have hr := B.returns
  have hts := atoms_spec (ws := wsX12_has) B.pre
  have hown : s.vm.findClass RX12 = some m.cls := findClass_of_methodNamed B.named
  have hlocks := B.notSynchronized
  have hS : va_S (fun _ => False) s.heap s.heap [] := va_S.rf
  refine w_entry (Nat.le_of_ble_eq_true rfl) (fun ls hl => ?_)
  have hl : lv_has ls 3 [(0, .ref mo), (1, .int (nI j)), (2, .int (nI i))] := hl
  refine lv_iload_n hx hb dX12_has_0 rfl (lv_at hl 1 rfl) ?_
  refine lv_iconst (v := 3) hx hb dX12_has_1 (by decide) ?_
  refine lv_icmp_ge (tgt := 16) hx hb dX12_has_2 (by decide) (fun c_2 => ?_) (fun c_2 => ?_)
  · have hj3 : j = 3 := by have z := i32_le c_2; rw [show (3 : Int32).toInt = (3 : Int) from rfl, nI_toInt (by omega)] at z; omega
    refine lv_aload_n hx hb dX12_has_16 rfl (lv_at hl 0 rfl) ?_
    refine va_get (D := D) (ci := 13) (v := .ref (w 0)) (C := RX12) (T := TX12) (N := 11) hx hb hts (by decide +kernel) hown hC.1 hP 0 rfl rfl 1 (by decide) (hts (.fieldLink RX12 11 "TriplegarthModel" "there" "[[Z") (by decide +kernel)) (fun _ h9 => h9) rfl dX12_has_17 ?_
    refine lv_iconst (v := 0) hx hb dX12_has_20 (by decide) ?_
    refine w_aldA hx hb hC.1 hP 1 5 rfl rfl (vp_in_nI (n := 0) (N := 3) (by decide) (by decide)) dX12_has_21 ?_
    refine w_topr (y := .ref (w 5)) rfl ?_
    refine lv_iload_n hx hb dX12_has_22 rfl (lv_at hl 2 rfl) ?_
    refine va_zald hx hb hC.1 hP 2 0 rfl rfl (vp_in_nI (show i < 768 by omega) (by decide)) dX12_has_23 ?_
    refine w_top (y := 0) rfl ?_
    refine lv_if_ne (tgt := 49) hx hb dX12_has_24 (by decide) (fun c_24 => absurd c_24 (by decide)) (fun c_24 => ?_)
    refine lv_aload_n hx hb dX12_has_27 rfl (lv_at hl 0 rfl) ?_
    refine va_get (D := D) (ci := 13) (v := .ref (w 0)) (C := RX12) (T := TX12) (N := 11) hx hb hts (by decide +kernel) hown hC.1 hP 0 rfl rfl 1 (by decide) (hts (.fieldLink RX12 11 "TriplegarthModel" "there" "[[Z") (by decide +kernel)) (fun _ h9 => h9) rfl dX12_has_28 ?_
    refine lv_iconst (v := 1) hx hb dX12_has_31 (by decide) ?_
    refine w_aldA hx hb hC.1 hP 1 5 rfl rfl (vp_in_nI (n := 1) (N := 3) (by decide) (by decide)) dX12_has_32 ?_
    refine w_topr (y := .ref (w 6)) rfl ?_
    refine lv_iload_n hx hb dX12_has_33 rfl (lv_at hl 2 rfl) ?_
    refine va_zald hx hb hC.1 hP 3 0 rfl rfl (vp_in_nI (show i < 768 by omega) (by decide)) dX12_has_34 ?_
    refine w_top (y := 0) rfl ?_
    refine lv_if_ne (tgt := 49) hx hb dX12_has_35 (by decide) (fun c_35 => absurd c_35 (by decide)) (fun c_35 => ?_)
    refine lv_aload_n hx hb dX12_has_38 rfl (lv_at hl 0 rfl) ?_
    refine va_get (D := D) (ci := 13) (v := .ref (w 0)) (C := RX12) (T := TX12) (N := 11) hx hb hts (by decide +kernel) hown hC.1 hP 0 rfl rfl 1 (by decide) (hts (.fieldLink RX12 11 "TriplegarthModel" "there" "[[Z") (by decide +kernel)) (fun _ h9 => h9) rfl dX12_has_39 ?_
    refine lv_iconst (v := 2) hx hb dX12_has_42 (by decide) ?_
    refine w_aldA hx hb hC.1 hP 1 5 rfl rfl (vp_in_nI (n := 2) (N := 3) (by decide) (by decide)) dX12_has_43 ?_
    refine w_topr (y := .ref (w 7)) rfl ?_
    refine lv_iload_n hx hb dX12_has_44 rfl (lv_at hl 2 rfl) ?_
    refine va_zald hx hb hC.1 hP 4 0 rfl rfl (vp_in_nI (show i < 768 by omega) (by decide)) dX12_has_45 ?_
    refine w_top (y := 0) rfl ?_
    refine lv_if_eq (tgt := 53) hx hb dX12_has_46 (by decide) (fun c_46 => ?_) (fun c_46 => absurd (by decide) c_46)
    refine lv_iconst (v := 0) hx hb dX12_has_53 (by decide) ?_
    exact W.zret (v := 0) (ty := .boolean) hx hb hr (rfl) (fun t ht hW => ⟨⟨0, (), rfl, rfl, ht⟩, hS.F ht⟩) hS.2.2 dX12_has_54
  · have hj3 : j < 3 := by have z := i32_nle c_2; rw [show (3 : Int32).toInt = (3 : Int) from rfl, nI_toInt (by omega)] at z; omega
    refine lv_aload_n hx hb dX12_has_5 rfl (lv_at hl 0 rfl) ?_
    refine va_get (D := D) (ci := 13) (v := .ref (w 0)) (C := RX12) (T := TX12) (N := 11) hx hb hts (by decide +kernel) hown hC.1 hP 0 rfl rfl 1 (by decide) (hts (.fieldLink RX12 11 "TriplegarthModel" "there" "[[Z") (by decide +kernel)) (fun _ h9 => h9) rfl dX12_has_6 ?_
    refine lv_iload_n hx hb dX12_has_9 rfl (lv_at hl 1 rfl) ?_
    refine w_aldA hx hb hC.1 hP 1 5 rfl rfl (vp_in_nI (show j < 3 by omega) (by decide)) dX12_has_10 ?_
    refine w_topr (y := .ref (w (5 + j))) (by rw [nI_clamp (show j < 2 ^ 31 by omega)]; rfl) ?_
    have hP : va_P D vwCl [(mo, .inr (13, [.int 0, .ref (w 0), .int 0, .ref (w 1), .int 0, .int 0, .ref (w 2), .int 0, .ref (w 3), .ref (w 4), .int 0])), ((w 0), .inl (k 5, 3, .inr (.inr (.inr (.inr (fun i => some (w (5 + i)))))))), ((w (5 + j)), .inl (k 0, 768, .inl (fun _ => 0)))] s.heap := wM_j hP hj3
    refine lv_iload_n hx hb dX12_has_11 rfl (lv_at hl 2 rfl) ?_
    refine va_zald hx hb hC.1 hP 2 0 rfl rfl (vp_in_nI (show i < 768 by omega) (by decide)) dX12_has_12 ?_
    refine w_top (y := 0) rfl ?_
    refine lv_goto (tgt := 54) hx hb dX12_has_13 (by decide) ?_
    exact W.zret (v := 0) (ty := .boolean) hx hb hr (rfl) (fun t ht hW => ⟨⟨0, (), rfl, rfl, ht⟩, hS.F ht⟩) hS.2.2 dX12_has_54

set_option maxHeartbeats 4000000 in
set_option maxRecDepth 100000 in
theorem k_X12_count (l : Launch) (D : va_G) (k : Nat → ClassId) (h0 : Heap) (mo : Nat) (w : Nat → Nat) (j : Nat) (hP : va_P D vwCl (wM k mo w 0) h0) (hj : j < 4) : Met l yX12_count wsX12_count ({ frames := 1, cells := 0, slots := 0, locals := 22 }) (pPc D k [.ref mo, .int (nI j)] h0) (va_Qi (fun r (_ : Unit) => r = 0) (fun _ t => t.heap = h0) (fun _ => False)) 0 0 (fun _ => False) := by
  refine Met.ofW (cc := cX12_count) (maxL := 4) (ret := (some .int)) (by decide) rfl ?_
  intro p e s m args below meth c s₁ B hml hv
  obtain ⟨rfl, rfl, hC⟩ := hv
  have hx := B.exec
  have hb := B.bytes
  have hr := B.returns
  have hts := atoms_spec (ws := wsX12_count) B.pre
  have hown : s.vm.findClass RX12 = some m.cls := findClass_of_methodNamed B.named
  have hlocks := B.notSynchronized
  have hS : va_S (fun _ => False) s.heap s.heap [] := va_S.rf
  refine w_entry (Nat.le_of_ble_eq_true rfl) (fun ls hl => ?_)
  have hl : lv_has ls 4 [(0, .ref mo), (1, .int (nI j))] := hl
  refine lv_iconst (v := 0) hx hb dX12_count_0 (by decide) ?_
  refine lv_istore_n (lv' := [(2, .int 0), (0, .ref mo), (1, .int (nI j))]) hx hb dX12_count_1 rfl hl (by decide) rfl (fun ls hl => ?_)
  refine lv_iconst (v := 0) hx hb dX12_count_2 (by decide) ?_
  refine lv_istore_n (lv' := [(3, .int 0), (2, .int 0), (0, .ref mo), (1, .int (nI j))]) hx hb dX12_count_3 rfl hl (by decide) rfl (fun ls hl => ?_)
  refine w_loop (N := 768) (fun i locs ls => va_S (fun _ => False) s.heap s.heap locs ∧ lv_has ls 4 [(3, .int (nI i)), (2, .int 0), (0, .ref mo), (1, .int (nI j))]) ?_ 0 _ _ (Nat.zero_le _) ⟨hS, lv_sub hl [0, 1, 2, 3] rfl⟩
  rintro i locs ls hi ⟨hS, hl⟩ ih
  refine lv_iload_n hx hb dX12_count_4 rfl (lv_at hl 0 rfl) ?_
  refine lv_sipush (v := 768) hx hb dX12_count_5 (by decide) ?_
  refine lv_icmp_ge (tgt := 34) hx hb dX12_count_8 (by decide) (fun c_8 => ?_) (fun c_8 => ?_)
  · have h9 : 768 ≤ i := by have z := i32_le c_8; rw [show (768 : Int32).toInt = (768 : Int) from rfl, nI_toInt (by omega)] at z; omega
    have hi9 : i = 768 := by omega
    refine lv_iload_n hx hb dX12_count_34 rfl (lv_at hl 1 rfl) ?_
    exact W.iret (v := 0) hx hb hr (fun t ht hW => ⟨⟨0, (), rfl, rfl, ht⟩, hS.F ht⟩) hS.2.2 dX12_count_35
  · have hlt : i < 768 := by have z := i32_nle c_8; rw [show (768 : Int32).toInt = (768 : Int) from rfl, nI_toInt (by omega)] at z; omega
    refine lv_iload_n hx hb dX12_count_11 rfl (lv_at hl 1 rfl) ?_
    refine lv_aload_n hx hb dX12_count_12 rfl (lv_at hl 2 rfl) ?_
    refine lv_iload_n hx hb dX12_count_13 rfl (lv_at hl 3 rfl) ?_
    refine lv_iload_n hx hb dX12_count_14 rfl (lv_at hl 0 rfl) ?_
    refine pz_i (va_runV (As := [.int (nI j), .int (nI i)]) (rest := [.int 0]) ⟨hx, hb, hml, hown, hts⟩ (k_X12_has l D k s.heap mo w j i (hP.sub [0, 1, 2, 3, 4, 5, 6, 7] rfl) hj hlt) (cwV 2 hts gX12_count_X12_has rfl rfl rfl (by decide +kernel) ⟨Nat.le_of_ble_eq_true rfl, Nat.le_of_ble_eq_true rfl⟩) ⟨pPc_fb, va_recv hC.1 hP (ci := 13) (q0 := 0) rfl rfl, pPc_go hC⟩ rfl rfl hl.1 rfl (lv_room (Nat.le_of_ble_eq_true rfl)) dX12_count_15 ⟨Nat.le_of_ble_eq_true rfl, Nat.le_of_ble_eq_true rfl⟩) hS (fun r1 locs hw_r1 hS => ?_)
    subst hw_r1
    refine lv_if_eq (tgt := 25) hx hb dX12_count_18 (by decide) (fun c_18 => ?_) (fun c_18 => absurd (by decide) c_18)
    refine lv_iconst (v := 0) hx hb dX12_count_25 (by decide) ?_
    refine lv_iadd hx hb dX12_count_26 ?_
    refine w_top (y := 0) (by decide) ?_
    refine lv_istore_n (lv' := [(2, .int 0), (3, .int (nI i)), (0, .ref mo), (1, .int (nI j))]) hx hb dX12_count_27 rfl hl (by decide) rfl (fun ls hl => ?_)
    refine lv_iinc (v := nI (i + 1)) (lv' := [(3, .int (nI (i + 1))), (2, .int 0), (0, .ref mo), (1, .int (nI j))]) hx hb dX12_count_28 hl (k := 1) rfl (nI_1 i) (by decide) rfl (fun ls hl => ?_)
    refine lv_goto (tgt := 4) hx hb dX12_count_31 (by decide) ?_
    exact ih locs ls hlt ⟨hS, lv_sub hl [0, 1, 2, 3] rfl⟩

set_option maxHeartbeats 4000000 in
set_option maxRecDepth 100000 in
theorem k_X12_proofs (l : Launch) (D : va_G) (k : Nat → ClassId) (e0 : Nat) (sz : Nat) (mo : Nat) (w : Nat → Nat) (j : Nat) (hj : j < 4) : Met l yX12_proofs wsX12_proofs ({ frames := 1, cells := 1, slots := 768, locals := 22 }) (mPc D k e0 sz [.ref mo, .int (nI j)] [(mo, .inr (13, [.int 0, .ref (w 0), .int 0, .ref (w 1), .int 0, .int 0, .ref (w 2), .int 0, .ref (w 3), .ref (w 4), .int 0])), ((w 0), .inl (k 5, 3, .inr (.inr (.inr (.inr (fun i => some (w (5 + i)))))))), ((w 5), .inl (k 0, 768, .inl (fun _ => 0))), ((w 6), .inl (k 0, 768, .inl (fun _ => 0))), ((w 7), .inl (k 0, 768, .inl (fun _ => 0))), ((w 1), .inl (k 6, 8, .inr (.inr (.inr (.inr (fun _ => none)))))), ((w 2), .inl (k 6, 20, .inr (.inr (.inr (.inr (fun _ => none)))))), ((w 4), .inl (k 6, 6, .inr (.inr (.inr (.inr (fun _ => none))))))]) (va_Qr (fun (_ : Unit) => True) (fun _ a t => va_P D vwCl [(mo, .inr (13, [.int 0, .ref (w 0), .int 0, .ref (w 1), .int 0, .int 0, .ref (w 2), .int 0, .ref (w 3), .ref (w 4), .int 0])), (a, .inl (k 2, 768, .inl (fun _ => 0)))] t.heap ∧ va_D (va_A [(mo, .inr (13, [.int 0, .ref (w 0), .int 0, .ref (w 1), .int 0, .int 0, .ref (w 2), .int 0, .ref (w 3), .ref (w 4), .int 0])), ((w 0), .inl (k 5, 3, .inr (.inr (.inr (.inr (fun i => some (w (5 + i)))))))), ((w 5), .inl (k 0, 768, .inl (fun _ => 0))), ((w 6), .inl (k 0, 768, .inl (fun _ => 0))), ((w 7), .inl (k 0, 768, .inl (fun _ => 0))), ((w 1), .inl (k 6, 8, .inr (.inr (.inr (.inr (fun _ => none)))))), ((w 2), .inl (k 6, 20, .inr (.inr (.inr (.inr (fun _ => none)))))), ((w 4), .inl (k 6, 6, .inr (.inr (.inr (.inr (fun _ => none))))))] sz) [(mo, .inr (13, [.int 0, .ref (w 0), .int 0, .ref (w 1), .int 0, .int 0, .ref (w 2), .int 0, .ref (w 3), .ref (w 4), .int 0])), (a, .inl (k 2, 768, .inl (fun _ => 0)))]) (va_A [(mo, .inr (13, [.int 0, .ref (w 0), .int 0, .ref (w 1), .int 0, .int 0, .ref (w 2), .int 0, .ref (w 3), .ref (w 4), .int 0])), ((w 0), .inl (k 5, 3, .inr (.inr (.inr (.inr (fun i => some (w (5 + i)))))))), ((w 5), .inl (k 0, 768, .inl (fun _ => 0))), ((w 6), .inl (k 0, 768, .inl (fun _ => 0))), ((w 7), .inl (k 0, 768, .inl (fun _ => 0))), ((w 1), .inl (k 6, 8, .inr (.inr (.inr (.inr (fun _ => none)))))), ((w 2), .inl (k 6, 20, .inr (.inr (.inr (.inr (fun _ => none)))))), ((w 4), .inl (k 6, 6, .inr (.inr (.inr (.inr (fun _ => none))))))] sz)) 1 768 (va_A [(mo, .inr (13, [.int 0, .ref (w 0), .int 0, .ref (w 1), .int 0, .int 0, .ref (w 2), .int 0, .ref (w 3), .ref (w 4), .int 0])), ((w 0), .inl (k 5, 3, .inr (.inr (.inr (.inr (fun i => some (w (5 + i)))))))), ((w 5), .inl (k 0, 768, .inl (fun _ => 0))), ((w 6), .inl (k 0, 768, .inl (fun _ => 0))), ((w 7), .inl (k 0, 768, .inl (fun _ => 0))), ((w 1), .inl (k 6, 8, .inr (.inr (.inr (.inr (fun _ => none)))))), ((w 2), .inl (k 6, 20, .inr (.inr (.inr (.inr (fun _ => none)))))), ((w 4), .inl (k 6, 6, .inr (.inr (.inr (.inr (fun _ => none))))))] sz) := by
  refine Met.ofW (cc := cX12_proofs) (maxL := 6) (ret := (some (.array .int))) (by decide) rfl ?_
  intro p e s m args below meth c s₁ B hml hv
  obtain ⟨rfl, rfl, hP, hC, hD0, hHf⟩ := hv
  have hx := B.exec
  have hb := B.bytes
  have hr := B.returns
  have hts := atoms_spec (ws := wsX12_proofs) B.pre
  have hown : s.vm.findClass RX12 = some m.cls := findClass_of_methodNamed B.named
  have hlocks := B.notSynchronized
  have hD := hD0.self (sz := s.heap.size)
  generalize hAe : va_A [(mo, .inr (13, [.int 0, .ref (w 0), .int 0, .ref (w 1), .int 0, .int 0, .ref (w 2), .int 0, .ref (w 3), .ref (w 4), .int 0])), ((w 0), .inl (k 5, 3, .inr (.inr (.inr (.inr (fun i => some (w (5 + i)))))))), ((w 5), .inl (k 0, 768, .inl (fun _ => 0))), ((w 6), .inl (k 0, 768, .inl (fun _ => 0))), ((w 7), .inl (k 0, 768, .inl (fun _ => 0))), ((w 1), .inl (k 6, 8, .inr (.inr (.inr (.inr (fun _ => none)))))), ((w 2), .inl (k 6, 20, .inr (.inr (.inr (.inr (fun _ => none)))))), ((w 4), .inl (k 6, 6, .inr (.inr (.inr (.inr (fun _ => none))))))] s.heap.size = A at hD hHf ⊢
  have hA : ∀ q : Nat, s.heap.size ≤ q → A q := fun q h => by rw [← hAe]; exact Or.inr h
  have hS : va_S A s.heap s.heap [] := va_S.rf
  refine w_entry (Nat.le_of_ble_eq_true rfl) (fun ls hl => ?_)
  have hl : lv_has ls 6 [(0, .ref mo), (1, .int (nI j))] := hl
  refine lv_sipush (v := 768) hx hb dX12_proofs_0 (by decide) ?_
  refine w_newa (atype := .int) hx hb (hts (.arrayClass .int) (by decide +kernel)) (ty := .int) rfl 2 rfl hC.1 hP hD hS hA (a0 := (768, .inl (fun _ => 0))) (N' := 768) (fun _ => rfl) (by decide) (by decide) (Nat.le_of_ble_eq_true rfl) (Nat.le_of_ble_eq_true rfl) (Nat.le_of_ble_eq_true rfl) dX12_proofs_3 (fun q3 H hP hD hS => ?_)
  have hP : va_P D vwCl [(mo, .inr (13, [.int 0, .ref (w 0), .int 0, .ref (w 1), .int 0, .int 0, .ref (w 2), .int 0, .ref (w 3), .ref (w 4), .int 0])), ((w 0), .inl (k 5, 3, .inr (.inr (.inr (.inr (fun i => some (w (5 + i)))))))), ((w 5), .inl (k 0, 768, .inl (fun _ => 0))), ((w 6), .inl (k 0, 768, .inl (fun _ => 0))), ((w 7), .inl (k 0, 768, .inl (fun _ => 0))), ((w 1), .inl (k 6, 8, .inr (.inr (.inr (.inr (fun _ => none)))))), ((w 2), .inl (k 6, 20, .inr (.inr (.inr (.inr (fun _ => none)))))), ((w 4), .inl (k 6, 6, .inr (.inr (.inr (.inr (fun _ => none)))))), (q3, .inl (k 2, 768, .inl (fun _ => 0)))] H := hP
  have hD : va_D A [(mo, .inr (13, [.int 0, .ref (w 0), .int 0, .ref (w 1), .int 0, .int 0, .ref (w 2), .int 0, .ref (w 3), .ref (w 4), .int 0])), ((w 0), .inl (k 5, 3, .inr (.inr (.inr (.inr (fun i => some (w (5 + i)))))))), ((w 5), .inl (k 0, 768, .inl (fun _ => 0))), ((w 6), .inl (k 0, 768, .inl (fun _ => 0))), ((w 7), .inl (k 0, 768, .inl (fun _ => 0))), ((w 1), .inl (k 6, 8, .inr (.inr (.inr (.inr (fun _ => none)))))), ((w 2), .inl (k 6, 20, .inr (.inr (.inr (.inr (fun _ => none)))))), ((w 4), .inl (k 6, 6, .inr (.inr (.inr (.inr (fun _ => none)))))), (q3, .inl (k 2, 768, .inl (fun _ => 0)))] := hD
  refine lv_astore_n (lv' := [(2, .ref q3), (0, .ref mo), (1, .int (nI j))]) hx hb dX12_proofs_5 rfl hl (by decide) rfl (fun ls hl => ?_)
  refine lv_iconst (v := 0) hx hb dX12_proofs_6 (by decide) ?_
  refine lv_istore_n (lv' := [(3, .int 0), (2, .ref q3), (0, .ref mo), (1, .int (nI j))]) hx hb dX12_proofs_7 rfl hl (by decide) rfl (fun ls hl => ?_)
  refine w_loopH (N := 768) (fun i H locs ls => va_P D vwCl [(mo, .inr (13, [.int 0, .ref (w 0), .int 0, .ref (w 1), .int 0, .int 0, .ref (w 2), .int 0, .ref (w 3), .ref (w 4), .int 0])), ((w 0), .inl (k 5, 3, .inr (.inr (.inr (.inr (fun i => some (w (5 + i)))))))), ((w 5), .inl (k 0, 768, .inl (fun _ => 0))), ((w 6), .inl (k 0, 768, .inl (fun _ => 0))), ((w 7), .inl (k 0, 768, .inl (fun _ => 0))), ((w 1), .inl (k 6, 8, .inr (.inr (.inr (.inr (fun _ => none)))))), ((w 2), .inl (k 6, 20, .inr (.inr (.inr (.inr (fun _ => none)))))), ((w 4), .inl (k 6, 6, .inr (.inr (.inr (.inr (fun _ => none)))))), (q3, .inl (k 2, 768, .inl (fun _ => 0)))] H ∧ va_D A [(mo, .inr (13, [.int 0, .ref (w 0), .int 0, .ref (w 1), .int 0, .int 0, .ref (w 2), .int 0, .ref (w 3), .ref (w 4), .int 0])), ((w 0), .inl (k 5, 3, .inr (.inr (.inr (.inr (fun i => some (w (5 + i)))))))), ((w 5), .inl (k 0, 768, .inl (fun _ => 0))), ((w 6), .inl (k 0, 768, .inl (fun _ => 0))), ((w 7), .inl (k 0, 768, .inl (fun _ => 0))), ((w 1), .inl (k 6, 8, .inr (.inr (.inr (.inr (fun _ => none)))))), ((w 2), .inl (k 6, 20, .inr (.inr (.inr (.inr (fun _ => none)))))), ((w 4), .inl (k 6, 6, .inr (.inr (.inr (.inr (fun _ => none)))))), (q3, .inl (k 2, 768, .inl (fun _ => 0)))] ∧ va_S A s.heap H locs ∧ lv_has ls 6 [(3, .int (nI i)), (2, .ref q3), (0, .ref mo), (1, .int (nI j))]) ?_ 0 _ _ _ (Nat.zero_le _) ⟨hP, hD, hS, lv_sub hl [0, 1, 2, 3] rfl⟩
  rintro i H locs ls hi ⟨hP, hD, hS, hl⟩ ih
  refine lv_iload_n hx hb dX12_proofs_8 rfl (lv_at hl 0 rfl) ?_
  refine lv_sipush (v := 768) hx hb dX12_proofs_9 (by decide) ?_
  refine lv_icmp_ge (tgt := 38) hx hb dX12_proofs_12 (by decide) (fun c_12 => ?_) (fun c_12 => ?_)
  · have h9 : 768 ≤ i := by have z := i32_le c_12; rw [show (768 : Int32).toInt = (768 : Int) from rfl, nI_toInt (by omega)] at z; omega
    have hi9 : i = 768 := by omega
    refine lv_iconst (v := 1) hx hb dX12_proofs_38 (by decide) ?_
    refine lv_istore_n (lv' := [(3, .int 1), (2, .ref q3), (0, .ref mo), (1, .int (nI j))]) hx hb dX12_proofs_39 rfl hl (by decide) rfl (fun ls hl => ?_)
    refine lv_iload_n hx hb dX12_proofs_40 rfl (lv_at hl 0 rfl) ?_
    refine lv_if_eq (tgt := 137) hx hb dX12_proofs_41 (by decide) (fun c_41 => absurd c_41 (by decide)) (fun c_41 => ?_)
    refine lv_iconst (v := 0) hx hb dX12_proofs_44 (by decide) ?_
    refine lv_istore_n (lv' := [(3, .int 0), (2, .ref q3), (0, .ref mo), (1, .int (nI j))]) hx hb dX12_proofs_45 rfl hl (by decide) rfl (fun ls hl => ?_)
    refine lv_iconst (v := 0) hx hb dX12_proofs_46 (by decide) ?_
    refine lv_istore (lv' := [(4, .int 0), (3, .int 0), (2, .ref q3), (0, .ref mo), (1, .int (nI j))]) hx hb dX12_proofs_47 hl (by decide) rfl (fun ls hl => ?_)
    refine lv_iload hx hb dX12_proofs_49 (lv_at hl 0 rfl) ?_
    refine lv_aload_n hx hb dX12_proofs_51 rfl (lv_at hl 3 rfl) ?_
    refine va_get (D := D) (ci := 13) (v := .int 0) (C := RX12) (T := TX12) (N := 11) hx hb hts (by decide +kernel) hown hC.1 hP 0 rfl rfl 4 (by decide) (hts (.fieldLink RX12 65 "TriplegarthModel" "ruleMany" "I") (by decide +kernel)) (fun _ h9 => h9) rfl dX12_proofs_52 ?_
    refine lv_icmp_ge (tgt := 134) hx hb dX12_proofs_55 (by decide) (fun c_55 => ?_) (fun c_55 => absurd (by decide) c_55)
    refine lv_goto (tgt := 40) hx hb dX12_proofs_134 (by decide) ?_
    refine lv_iload_n hx hb dX12_proofs_40 rfl (lv_at hl 1 rfl) ?_
    refine lv_if_eq (tgt := 137) hx hb dX12_proofs_41 (by decide) (fun c_41_1 => ?_) (fun c_41_1 => absurd (by decide) c_41_1)
    refine lv_aload_n hx hb dX12_proofs_137 rfl (lv_at hl 2 rfl) ?_
    exact W.aret (v := .ref q3) hx hb hr (Or.inr ⟨_, rfl⟩) (Or.inr ⟨_, rfl⟩) (fun t ht hW => ⟨⟨(), q3, rfl, trivial, ⟨by rw [ht]; exact hP.sub [0, 8] rfl, hD.sub [0, 8] (by decide) rfl⟩⟩, hS.F ht⟩) hS.2.2 dX12_proofs_138
  · have hlt : i < 768 := by have z := i32_nle c_12; rw [show (768 : Int32).toInt = (768 : Int) from rfl, nI_toInt (by omega)] at z; omega
    refine lv_aload_n hx hb dX12_proofs_15 rfl (lv_at hl 1 rfl) ?_
    refine lv_iload_n hx hb dX12_proofs_16 rfl (lv_at hl 0 rfl) ?_
    refine lv_aload_n hx hb dX12_proofs_17 rfl (lv_at hl 2 rfl) ?_
    refine lv_iload_n hx hb dX12_proofs_18 rfl (lv_at hl 3 rfl) ?_
    refine lv_iload_n hx hb dX12_proofs_19 rfl (lv_at hl 0 rfl) ?_
    refine pz_i (va_runV (As := [.int (nI j), .int (nI i)]) (rest := [.int (nI i), .ref q3]) ⟨hx, hb, hml, hown, hts⟩ (k_X12_has l D k H mo w j i (hP.sub [0, 1, 2, 3, 4, 5, 6, 7] rfl) hj hlt) (cwV 2 hts gX12_proofs_X12_has rfl rfl rfl (by decide +kernel) ⟨Nat.le_of_ble_eq_true rfl, Nat.le_of_ble_eq_true rfl⟩) ⟨pPc_fb, va_recv hC.1 hP (ci := 13) (q0 := 0) rfl rfl, pPc_go hC⟩ rfl rfl hl.1 rfl (lv_room (Nat.le_of_ble_eq_true rfl)) dX12_proofs_20 ⟨Nat.le_of_ble_eq_true rfl, Nat.le_of_ble_eq_true rfl⟩) hS (fun r1 locs hw_r1 hS => ?_)
    subst hw_r1
    refine lv_if_eq (tgt := 30) hx hb dX12_proofs_23 (by decide) (fun c_23 => ?_) (fun c_23 => absurd (by decide) c_23)
    refine lv_iconst (v := 0) hx hb dX12_proofs_30 (by decide) ?_
    refine va_iast hx hb hC.1 hP hD hS 8 2 rfl rfl (vp_in_nI hlt (by decide)) dX12_proofs_31 (fun H locs hP hD hS => ?_)
    rw [upI0] at hP hD
    have hP : va_P D vwCl [(mo, .inr (13, [.int 0, .ref (w 0), .int 0, .ref (w 1), .int 0, .int 0, .ref (w 2), .int 0, .ref (w 3), .ref (w 4), .int 0])), ((w 0), .inl (k 5, 3, .inr (.inr (.inr (.inr (fun i => some (w (5 + i)))))))), ((w 5), .inl (k 0, 768, .inl (fun _ => 0))), ((w 6), .inl (k 0, 768, .inl (fun _ => 0))), ((w 7), .inl (k 0, 768, .inl (fun _ => 0))), ((w 1), .inl (k 6, 8, .inr (.inr (.inr (.inr (fun _ => none)))))), ((w 2), .inl (k 6, 20, .inr (.inr (.inr (.inr (fun _ => none)))))), ((w 4), .inl (k 6, 6, .inr (.inr (.inr (.inr (fun _ => none)))))), (q3, .inl (k 2, 768, .inl (fun _ => 0)))] H := hP
    have hD : va_D A [(mo, .inr (13, [.int 0, .ref (w 0), .int 0, .ref (w 1), .int 0, .int 0, .ref (w 2), .int 0, .ref (w 3), .ref (w 4), .int 0])), ((w 0), .inl (k 5, 3, .inr (.inr (.inr (.inr (fun i => some (w (5 + i)))))))), ((w 5), .inl (k 0, 768, .inl (fun _ => 0))), ((w 6), .inl (k 0, 768, .inl (fun _ => 0))), ((w 7), .inl (k 0, 768, .inl (fun _ => 0))), ((w 1), .inl (k 6, 8, .inr (.inr (.inr (.inr (fun _ => none)))))), ((w 2), .inl (k 6, 20, .inr (.inr (.inr (.inr (fun _ => none)))))), ((w 4), .inl (k 6, 6, .inr (.inr (.inr (.inr (fun _ => none)))))), (q3, .inl (k 2, 768, .inl (fun _ => 0)))] := hD
    refine lv_iinc (v := nI (i + 1)) (lv' := [(3, .int (nI (i + 1))), (2, .ref q3), (0, .ref mo), (1, .int (nI j))]) hx hb dX12_proofs_32 hl (k := 0) rfl (nI_1 i) (by decide) rfl (fun ls hl => ?_)
    refine lv_goto (tgt := 8) hx hb dX12_proofs_35 (by decide) ?_
    exact ih H locs ls hlt ⟨hP, hD, hS, lv_sub hl [0, 1, 2, 3] rfl⟩

set_option maxHeartbeats 4000000 in
set_option maxRecDepth 100000 in
theorem k_X12_failsTriple (l : Launch) (D : va_G) (k : Nat → ClassId) (e0 : Nat) (sz : Nat) (mo : Nat) (w : Nat → Nat) (g x y z : Int32) : Met l yX12_failsTriple wsX12_failsTriple ({ frames := 2, cells := 0, slots := 0, locals := 44 }) (mPc D k e0 sz [.ref mo, .int g, .int x, .int y, .int z] [(mo, .inr (13, [.int 0, .ref (w 0), .int 0, .ref (w 1), .int 0, .int 0, .ref (w 2), .int 0, .ref (w 3), .ref (w 4), .int 0]))]) (va_Qi (fun r (u : Int32) => (((0 ≤ g.toInt ∧ g.toInt < 4) ∧ ((0 ≤ x.toInt ∧ x.toInt < 8) ∧ (0 ≤ y.toInt ∧ y.toInt < 8) ∧ (0 ≤ z.toInt ∧ z.toInt < 12))) ∧ u = 0 ∧ r = 0) ∨ (¬ ((0 ≤ g.toInt ∧ g.toInt < 4) ∧ ((0 ≤ x.toInt ∧ x.toInt < 8) ∧ (0 ≤ y.toInt ∧ y.toInt < 8) ∧ (0 ≤ z.toInt ∧ z.toInt < 12))) ∧ u = 1 ∧ r = 1)) (fun u t => va_P D vwCl [(mo, .inr (13, [.int u, .ref (w 0), .int 0, .ref (w 1), .int 0, .int 0, .ref (w 2), .int 0, .ref (w 3), .ref (w 4), .int 0]))] t.heap ∧ va_D (va_A [(mo, .inr (13, [.int 0, .ref (w 0), .int 0, .ref (w 1), .int 0, .int 0, .ref (w 2), .int 0, .ref (w 3), .ref (w 4), .int 0]))] sz) [(mo, .inr (13, [.int u, .ref (w 0), .int 0, .ref (w 1), .int 0, .int 0, .ref (w 2), .int 0, .ref (w 3), .ref (w 4), .int 0]))]) (va_A [(mo, .inr (13, [.int 0, .ref (w 0), .int 0, .ref (w 1), .int 0, .int 0, .ref (w 2), .int 0, .ref (w 3), .ref (w 4), .int 0]))] sz)) 0 0 (va_A [(mo, .inr (13, [.int 0, .ref (w 0), .int 0, .ref (w 1), .int 0, .int 0, .ref (w 2), .int 0, .ref (w 3), .ref (w 4), .int 0]))] sz) := by
  refine Met.ofW (cc := cX12_failsTriple) (maxL := 5) (ret := (some .boolean)) (by decide) rfl ?_
  intro p e s m args below meth c s₁ B hml hv
  obtain ⟨rfl, rfl, hP, hC, hD0, hHf⟩ := hv
  have hx := B.exec
  have hb := B.bytes
  have hr := B.returns
  have hts := atoms_spec (ws := wsX12_failsTriple) B.pre
  have hown : s.vm.findClass RX12 = some m.cls := findClass_of_methodNamed B.named
  have hlocks := B.notSynchronized
  have hD := hD0.self (sz := s.heap.size)
  generalize hAe : va_A [(mo, .inr (13, [.int 0, .ref (w 0), .int 0, .ref (w 1), .int 0, .int 0, .ref (w 2), .int 0, .ref (w 3), .ref (w 4), .int 0]))] s.heap.size = A at hD hHf ⊢
  have hA : ∀ q : Nat, s.heap.size ≤ q → A q := fun q h => by rw [← hAe]; exact Or.inr h
  have hS : va_S A s.heap s.heap [] := va_S.rf
  refine w_entry (Nat.le_of_ble_eq_true rfl) (fun ls hl => ?_)
  have hl : lv_has ls 5 [(0, .ref mo), (1, .int g), (2, .int x), (3, .int y), (4, .int z)] := hl
  refine lv_aload_n hx hb dX12_failsTriple_0 rfl (lv_at hl 0 rfl) ?_
  refine lv_iload_n hx hb dX12_failsTriple_1 rfl (lv_at hl 1 rfl) ?_
  refine lv_iconst (v := 0) hx hb dX12_failsTriple_2 (by decide) ?_
  refine lv_iconst (v := 3) hx hb dX12_failsTriple_3 (by decide) ?_
  refine pz_i (va_runS (As := [.int g, .int 0, .int 3]) (rest := [.ref mo]) ⟨hx, hb, hml, hown, hts⟩ (k_X12_in l D k s.heap g 0 3) (va_cwS 3 hts gX12_failsTriple_X12_in rfl rfl rfl (by decide +kernel) ⟨Nat.le_of_ble_eq_true rfl, Nat.le_of_ble_eq_true rfl⟩) ⟨pPc_fb, pPc_go hC⟩ rfl rfl hl.1 rfl (lv_room (Nat.le_of_ble_eq_true rfl)) dX12_failsTriple_4 ⟨Nat.le_of_ble_eq_true rfl, Nat.le_of_ble_eq_true rfl⟩) hS (fun r1 locs hw_r1 hS => ?_)
  have hw_r1 : r1 = bi (0 ≤ g.toInt ∧ g.toInt ≤ 3) := hw_r1
  refine lv_if_eq (tgt := 20) hx hb dX12_failsTriple_7 (by decide) (fun c_7 => ?_) (fun c_7 => ?_)
  · have f_7 := bi_z hw_r1 c_7
    refine lv_iconst (v := 1) hx hb dX12_failsTriple_20 (by decide) ?_
    refine lv_goto (tgt := 25) hx hb dX12_failsTriple_21 (by decide) ?_
    have hPc := hP.sub (ws' := [(mo, .inr (13, [.int 0, .ref (w 0), .int 0, .ref (w 1), .int 0, .int 0, .ref (w 2), .int 0, .ref (w 3), .ref (w 4), .int 0]))]) [0] rfl
    have hDc := hD.sub (ws' := [(mo, .inr (13, [.int 0, .ref (w 0), .int 0, .ref (w 1), .int 0, .int 0, .ref (w 2), .int 0, .ref (w 3), .ref (w 4), .int 0]))]) [0] (by decide) rfl
    have hFc := va_free (wc := [(mo, .inr (13, [.int 0, .ref (w 0), .int 0, .ref (w 1), .int 0, .int 0, .ref (w 2), .int 0, .ref (w 3), .ref (w 4), .int 0]))]) hD hS hA [0] rfl
    refine va_calli (va_runV (As := [.int 1]) (rest := []) ⟨hx, hb, hml, hown, hts⟩ (k_X12_fails l D k e0 s.heap.size mo w 0 1) (cwV 1 hts gX12_failsTriple_X12_fails rfl rfl rfl (by decide +kernel) ⟨Nat.le_of_ble_eq_true rfl, Nat.le_of_ble_eq_true rfl⟩) ⟨mPc_fb, va_recv hC.1 hPc (ci := 13) (q0 := 0) rfl rfl, mPc_go hC hHf hS hPc hDc hFc⟩ rfl rfl hl.1 rfl (lv_room (Nat.le_of_ble_eq_true rfl)) dX12_failsTriple_25 ⟨Nat.le_of_ble_eq_true rfl, Nat.le_of_ble_eq_true rfl⟩) hS (fun q9 _ h9 => hFc q9 h9) hFc (fun r3 u2 t H locs ht hvm hw_r3 hB hz1 hk1 hS => ?_)
    obtain ⟨hP1, hD1⟩ := hB
    rw [ht] at hP1
    obtain ⟨hP, hD⟩ := va_join (wr := []) (w1 := [(mo, .inr (13, [.int 1, .ref (w 0), .int 0, .ref (w 1), .int 0, .int 0, .ref (w 2), .int 0, .ref (w 3), .ref (w 4), .int 0]))]) hP hD [0] [] rfl rfl (by decide) (by decide) hk1 hFc hP1 hD1
    have hP : va_P D vwCl [(mo, .inr (13, [.int 1, .ref (w 0), .int 0, .ref (w 1), .int 0, .int 0, .ref (w 2), .int 0, .ref (w 3), .ref (w 4), .int 0]))] H := hP
    have hD : va_D A [(mo, .inr (13, [.int 1, .ref (w 0), .int 0, .ref (w 1), .int 0, .int 0, .ref (w 2), .int 0, .ref (w 3), .ref (w 4), .int 0]))] := hD
    have e_r3 : r3 = 1 := hw_r3.trans (by decide)
    subst e_r3
    exact W.zret (v := 1) (ty := .boolean) hx hb hr (rfl) (fun t ht hW => ⟨⟨1, 1, rfl, Or.inr ⟨by omega, rfl, rfl⟩, ⟨by rw [ht]; exact hP.sub [0] rfl, hD.sub [0] (by decide) rfl⟩⟩, hS.F ht⟩) hS.2.2 dX12_failsTriple_28
  · have f_7 := bi_n hw_r1 c_7
    refine lv_iload_n hx hb dX12_failsTriple_10 rfl (lv_at hl 2 rfl) ?_
    refine lv_iload_n hx hb dX12_failsTriple_11 rfl (lv_at hl 3 rfl) ?_
    refine lv_iload hx hb dX12_failsTriple_12 (lv_at hl 4 rfl) ?_
    refine pz_i (va_runS (As := [.int x, .int y, .int z]) (rest := [.ref mo]) ⟨hx, hb, hml, hown, hts⟩ (k_X12_isTriple l D k s.heap x y z) (va_cwS 3 hts gX12_failsTriple_X12_isTriple rfl rfl rfl (by decide +kernel) ⟨Nat.le_of_ble_eq_true rfl, Nat.le_of_ble_eq_true rfl⟩) ⟨pPc_fb, pPc_go hC⟩ rfl rfl hl.1 rfl (lv_room (Nat.le_of_ble_eq_true rfl)) dX12_failsTriple_14 ⟨Nat.le_of_ble_eq_true rfl, Nat.le_of_ble_eq_true rfl⟩) hS (fun r5 locs hw_r5 hS => ?_)
    refine lv_if_ne (tgt := 24) hx hb dX12_failsTriple_17 (by decide) (fun c_17 => ?_) (fun c_17 => ?_)
    · have f_17 := bi_n hw_r5 c_17
      refine lv_iconst (v := 0) hx hb dX12_failsTriple_24 (by decide) ?_
      have hPc := hP.sub (ws' := [(mo, .inr (13, [.int 0, .ref (w 0), .int 0, .ref (w 1), .int 0, .int 0, .ref (w 2), .int 0, .ref (w 3), .ref (w 4), .int 0]))]) [0] rfl
      have hDc := hD.sub (ws' := [(mo, .inr (13, [.int 0, .ref (w 0), .int 0, .ref (w 1), .int 0, .int 0, .ref (w 2), .int 0, .ref (w 3), .ref (w 4), .int 0]))]) [0] (by decide) rfl
      have hFc := va_free (wc := [(mo, .inr (13, [.int 0, .ref (w 0), .int 0, .ref (w 1), .int 0, .int 0, .ref (w 2), .int 0, .ref (w 3), .ref (w 4), .int 0]))]) hD hS hA [0] rfl
      refine va_calli (va_runV (As := [.int 0]) (rest := []) ⟨hx, hb, hml, hown, hts⟩ (k_X12_fails l D k e0 s.heap.size mo w 0 0) (cwV 1 hts gX12_failsTriple_X12_fails rfl rfl rfl (by decide +kernel) ⟨Nat.le_of_ble_eq_true rfl, Nat.le_of_ble_eq_true rfl⟩) ⟨mPc_fb, va_recv hC.1 hPc (ci := 13) (q0 := 0) rfl rfl, mPc_go hC hHf hS hPc hDc hFc⟩ rfl rfl hl.1 rfl (lv_room (Nat.le_of_ble_eq_true rfl)) dX12_failsTriple_25 ⟨Nat.le_of_ble_eq_true rfl, Nat.le_of_ble_eq_true rfl⟩) hS (fun q9 _ h9 => hFc q9 h9) hFc (fun r7 u6 t H locs ht hvm hw_r7 hB hz1 hk1 hS => ?_)
      obtain ⟨hP1, hD1⟩ := hB
      rw [ht] at hP1
      obtain ⟨hP, hD⟩ := va_join (wr := []) (w1 := [(mo, .inr (13, [.int 0, .ref (w 0), .int 0, .ref (w 1), .int 0, .int 0, .ref (w 2), .int 0, .ref (w 3), .ref (w 4), .int 0]))]) hP hD [0] [] rfl rfl (by decide) (by decide) hk1 hFc hP1 hD1
      have hP : va_P D vwCl [(mo, .inr (13, [.int 0, .ref (w 0), .int 0, .ref (w 1), .int 0, .int 0, .ref (w 2), .int 0, .ref (w 3), .ref (w 4), .int 0]))] H := hP
      have hD : va_D A [(mo, .inr (13, [.int 0, .ref (w 0), .int 0, .ref (w 1), .int 0, .int 0, .ref (w 2), .int 0, .ref (w 3), .ref (w 4), .int 0]))] := hD
      have e_r7 : r7 = 0 := hw_r7.trans (by decide)
      subst e_r7
      exact W.zret (v := 0) (ty := .boolean) hx hb hr (rfl) (fun t ht hW => ⟨⟨0, 0, rfl, Or.inl ⟨by omega, rfl, rfl⟩, ⟨by rw [ht]; exact hP.sub [0] rfl, hD.sub [0] (by decide) rfl⟩⟩, hS.F ht⟩) hS.2.2 dX12_failsTriple_28
    · have f_17 := bi_z hw_r5 c_17
      refine lv_iconst (v := 1) hx hb dX12_failsTriple_20 (by decide) ?_
      refine lv_goto (tgt := 25) hx hb dX12_failsTriple_21 (by decide) ?_
      have hPc := hP.sub (ws' := [(mo, .inr (13, [.int 0, .ref (w 0), .int 0, .ref (w 1), .int 0, .int 0, .ref (w 2), .int 0, .ref (w 3), .ref (w 4), .int 0]))]) [0] rfl
      have hDc := hD.sub (ws' := [(mo, .inr (13, [.int 0, .ref (w 0), .int 0, .ref (w 1), .int 0, .int 0, .ref (w 2), .int 0, .ref (w 3), .ref (w 4), .int 0]))]) [0] (by decide) rfl
      have hFc := va_free (wc := [(mo, .inr (13, [.int 0, .ref (w 0), .int 0, .ref (w 1), .int 0, .int 0, .ref (w 2), .int 0, .ref (w 3), .ref (w 4), .int 0]))]) hD hS hA [0] rfl
      refine va_calli (va_runV (As := [.int 1]) (rest := []) ⟨hx, hb, hml, hown, hts⟩ (k_X12_fails l D k e0 s.heap.size mo w 0 1) (cwV 1 hts gX12_failsTriple_X12_fails rfl rfl rfl (by decide +kernel) ⟨Nat.le_of_ble_eq_true rfl, Nat.le_of_ble_eq_true rfl⟩) ⟨mPc_fb, va_recv hC.1 hPc (ci := 13) (q0 := 0) rfl rfl, mPc_go hC hHf hS hPc hDc hFc⟩ rfl rfl hl.1 rfl (lv_room (Nat.le_of_ble_eq_true rfl)) dX12_failsTriple_25 ⟨Nat.le_of_ble_eq_true rfl, Nat.le_of_ble_eq_true rfl⟩) hS (fun q9 _ h9 => hFc q9 h9) hFc (fun r10 u9 t H locs ht hvm hw_r10 hB hz1 hk1 hS => ?_)
      obtain ⟨hP1, hD1⟩ := hB
      rw [ht] at hP1
      obtain ⟨hP, hD⟩ := va_join (wr := []) (w1 := [(mo, .inr (13, [.int 1, .ref (w 0), .int 0, .ref (w 1), .int 0, .int 0, .ref (w 2), .int 0, .ref (w 3), .ref (w 4), .int 0]))]) hP hD [0] [] rfl rfl (by decide) (by decide) hk1 hFc hP1 hD1
      have hP : va_P D vwCl [(mo, .inr (13, [.int 1, .ref (w 0), .int 0, .ref (w 1), .int 0, .int 0, .ref (w 2), .int 0, .ref (w 3), .ref (w 4), .int 0]))] H := hP
      have hD : va_D A [(mo, .inr (13, [.int 1, .ref (w 0), .int 0, .ref (w 1), .int 0, .int 0, .ref (w 2), .int 0, .ref (w 3), .ref (w 4), .int 0]))] := hD
      have e_r10 : r10 = 1 := hw_r10.trans (by decide)
      subst e_r10
      exact W.zret (v := 1) (ty := .boolean) hx hb hr (rfl) (fun t ht hW => ⟨⟨1, 1, rfl, Or.inr ⟨by omega, rfl, rfl⟩, ⟨by rw [ht]; exact hP.sub [0] rfl, hD.sub [0] (by decide) rfl⟩⟩, hS.F ht⟩) hS.2.2 dX12_failsTriple_28

set_option maxHeartbeats 4000000 in
set_option maxRecDepth 100000 in
theorem k_X12_add (l : Launch) (D : va_G) (k : Nat → ClassId) (e0 : Nat) (sz : Nat) (mo : Nat) (w : Nat → Nat) (g x y z : Int32) : Met l yX12_add wsX12_add ({ frames := 2, cells := 0, slots := 0, locals := 44 }) (mPc D k e0 sz [.ref mo, .int g, .int x, .int y, .int z] [(mo, .inr (13, [.int 0, .ref (w 0), .int 0, .ref (w 1), .int 0, .int 0, .ref (w 2), .int 0, .ref (w 3), .ref (w 4), .int 0])), ((w 0), .inl (k 5, 3, .inr (.inr (.inr (.inr (fun i => some (w (5 + i)))))))), ((w 5), .inl (k 0, 768, .inl (fun _ => 0))), ((w 6), .inl (k 0, 768, .inl (fun _ => 0))), ((w 7), .inl (k 0, 768, .inl (fun _ => 0))), ((w 1), .inl (k 6, 8, .inr (.inr (.inr (.inr (fun _ => none)))))), ((w 2), .inl (k 6, 20, .inr (.inr (.inr (.inr (fun _ => none)))))), ((w 4), .inl (k 6, 6, .inr (.inr (.inr (.inr (fun _ => none))))))]) (va_Qi (fun r (u : List Value) => (((0 ≤ g.toInt ∧ g.toInt < 3) ∧ ((0 ≤ x.toInt ∧ x.toInt < 8) ∧ (0 ≤ y.toInt ∧ y.toInt < 8) ∧ (0 ≤ z.toInt ∧ z.toInt < 12))) ∧ u[0]? = some (.int 0) ∧ r = 1) ∨ (¬ ((0 ≤ g.toInt ∧ g.toInt < 3) ∧ ((0 ≤ x.toInt ∧ x.toInt < 8) ∧ (0 ≤ y.toInt ∧ y.toInt < 8) ∧ (0 ≤ z.toInt ∧ z.toInt < 12))) ∧ u[0]? = some (.int 1))) (fun u t => va_P D vwCl [(mo, .inr (13, u))] t.heap ∧ va_D (va_A [(mo, .inr (13, [.int 0, .ref (w 0), .int 0, .ref (w 1), .int 0, .int 0, .ref (w 2), .int 0, .ref (w 3), .ref (w 4), .int 0])), ((w 0), .inl (k 5, 3, .inr (.inr (.inr (.inr (fun i => some (w (5 + i)))))))), ((w 5), .inl (k 0, 768, .inl (fun _ => 0))), ((w 6), .inl (k 0, 768, .inl (fun _ => 0))), ((w 7), .inl (k 0, 768, .inl (fun _ => 0))), ((w 1), .inl (k 6, 8, .inr (.inr (.inr (.inr (fun _ => none)))))), ((w 2), .inl (k 6, 20, .inr (.inr (.inr (.inr (fun _ => none)))))), ((w 4), .inl (k 6, 6, .inr (.inr (.inr (.inr (fun _ => none))))))] sz) [(mo, .inr (13, u))]) (va_A [(mo, .inr (13, [.int 0, .ref (w 0), .int 0, .ref (w 1), .int 0, .int 0, .ref (w 2), .int 0, .ref (w 3), .ref (w 4), .int 0])), ((w 0), .inl (k 5, 3, .inr (.inr (.inr (.inr (fun i => some (w (5 + i)))))))), ((w 5), .inl (k 0, 768, .inl (fun _ => 0))), ((w 6), .inl (k 0, 768, .inl (fun _ => 0))), ((w 7), .inl (k 0, 768, .inl (fun _ => 0))), ((w 1), .inl (k 6, 8, .inr (.inr (.inr (.inr (fun _ => none)))))), ((w 2), .inl (k 6, 20, .inr (.inr (.inr (.inr (fun _ => none)))))), ((w 4), .inl (k 6, 6, .inr (.inr (.inr (.inr (fun _ => none))))))] sz)) 0 0 (va_A [(mo, .inr (13, [.int 0, .ref (w 0), .int 0, .ref (w 1), .int 0, .int 0, .ref (w 2), .int 0, .ref (w 3), .ref (w 4), .int 0])), ((w 0), .inl (k 5, 3, .inr (.inr (.inr (.inr (fun i => some (w (5 + i)))))))), ((w 5), .inl (k 0, 768, .inl (fun _ => 0))), ((w 6), .inl (k 0, 768, .inl (fun _ => 0))), ((w 7), .inl (k 0, 768, .inl (fun _ => 0))), ((w 1), .inl (k 6, 8, .inr (.inr (.inr (.inr (fun _ => none)))))), ((w 2), .inl (k 6, 20, .inr (.inr (.inr (.inr (fun _ => none)))))), ((w 4), .inl (k 6, 6, .inr (.inr (.inr (.inr (fun _ => none))))))] sz) := by
  refine Met.ofW (cc := cX12_add) (maxL := 6) (ret := (some .boolean)) (by decide) rfl ?_
  intro p e s m args below meth c s₁ B hml hv
  obtain ⟨rfl, rfl, hP, hC, hD0, hHf⟩ := hv
  have hx := B.exec
  have hb := B.bytes
  have hr := B.returns
  have hts := atoms_spec (ws := wsX12_add) B.pre
  have hown : s.vm.findClass RX12 = some m.cls := findClass_of_methodNamed B.named
  have hlocks := B.notSynchronized
  have hD := hD0.self (sz := s.heap.size)
  generalize hAe : va_A [(mo, .inr (13, [.int 0, .ref (w 0), .int 0, .ref (w 1), .int 0, .int 0, .ref (w 2), .int 0, .ref (w 3), .ref (w 4), .int 0])), ((w 0), .inl (k 5, 3, .inr (.inr (.inr (.inr (fun i => some (w (5 + i)))))))), ((w 5), .inl (k 0, 768, .inl (fun _ => 0))), ((w 6), .inl (k 0, 768, .inl (fun _ => 0))), ((w 7), .inl (k 0, 768, .inl (fun _ => 0))), ((w 1), .inl (k 6, 8, .inr (.inr (.inr (.inr (fun _ => none)))))), ((w 2), .inl (k 6, 20, .inr (.inr (.inr (.inr (fun _ => none)))))), ((w 4), .inl (k 6, 6, .inr (.inr (.inr (.inr (fun _ => none))))))] s.heap.size = A at hD hHf ⊢
  have hA : ∀ q : Nat, s.heap.size ≤ q → A q := fun q h => by rw [← hAe]; exact Or.inr h
  have hS : va_S A s.heap s.heap [] := va_S.rf
  refine w_entry (Nat.le_of_ble_eq_true rfl) (fun ls hl => ?_)
  have hl : lv_has ls 6 [(0, .ref mo), (1, .int g), (2, .int x), (3, .int y), (4, .int z)] := hl
  refine lv_aload_n hx hb dX12_add_0 rfl (lv_at hl 0 rfl) ?_
  refine lv_iload_n hx hb dX12_add_1 rfl (lv_at hl 1 rfl) ?_
  refine lv_iconst (v := 0) hx hb dX12_add_2 (by decide) ?_
  refine lv_iconst (v := 2) hx hb dX12_add_3 (by decide) ?_
  refine pz_i (va_runS (As := [.int g, .int 0, .int 2]) (rest := [.ref mo]) ⟨hx, hb, hml, hown, hts⟩ (k_X12_in l D k s.heap g 0 2) (va_cwS 3 hts gX12_add_X12_in rfl rfl rfl (by decide +kernel) ⟨Nat.le_of_ble_eq_true rfl, Nat.le_of_ble_eq_true rfl⟩) ⟨pPc_fb, pPc_go hC⟩ rfl rfl hl.1 rfl (lv_room (Nat.le_of_ble_eq_true rfl)) dX12_add_4 ⟨Nat.le_of_ble_eq_true rfl, Nat.le_of_ble_eq_true rfl⟩) hS (fun r1 locs hw_r1 hS => ?_)
  have hw_r1 : r1 = bi (0 ≤ g.toInt ∧ g.toInt ≤ 2) := hw_r1
  refine lv_if_eq (tgt := 20) hx hb dX12_add_7 (by decide) (fun c_7 => ?_) (fun c_7 => ?_)
  · have f_7 := bi_z hw_r1 c_7
    refine lv_iconst (v := 1) hx hb dX12_add_20 (by decide) ?_
    refine lv_goto (tgt := 25) hx hb dX12_add_21 (by decide) ?_
    have hPc := hP.sub (ws' := [(mo, .inr (13, [.int 0, .ref (w 0), .int 0, .ref (w 1), .int 0, .int 0, .ref (w 2), .int 0, .ref (w 3), .ref (w 4), .int 0]))]) [0] rfl
    have hDc := hD.sub (ws' := [(mo, .inr (13, [.int 0, .ref (w 0), .int 0, .ref (w 1), .int 0, .int 0, .ref (w 2), .int 0, .ref (w 3), .ref (w 4), .int 0]))]) [0] (by decide) rfl
    have hFc := va_free (wc := [(mo, .inr (13, [.int 0, .ref (w 0), .int 0, .ref (w 1), .int 0, .int 0, .ref (w 2), .int 0, .ref (w 3), .ref (w 4), .int 0]))]) hD hS hA [0] rfl
    refine va_calli (va_runV (As := [.int 1]) (rest := []) ⟨hx, hb, hml, hown, hts⟩ (k_X12_fails l D k e0 s.heap.size mo w 0 1) (cwV 1 hts gX12_add_X12_fails rfl rfl rfl (by decide +kernel) ⟨Nat.le_of_ble_eq_true rfl, Nat.le_of_ble_eq_true rfl⟩) ⟨mPc_fb, va_recv hC.1 hPc (ci := 13) (q0 := 0) rfl rfl, mPc_go hC hHf hS hPc hDc hFc⟩ rfl rfl hl.1 rfl (lv_room (Nat.le_of_ble_eq_true rfl)) dX12_add_25 ⟨Nat.le_of_ble_eq_true rfl, Nat.le_of_ble_eq_true rfl⟩) hS (fun q9 _ h9 => hFc q9 h9) hFc (fun r3 u2 t H locs ht hvm hw_r3 hB hz1 hk1 hS => ?_)
    obtain ⟨hP1, hD1⟩ := hB
    rw [ht] at hP1
    obtain ⟨hP, hD⟩ := va_join (wr := [((w 0), .inl (k 5, 3, .inr (.inr (.inr (.inr (fun i => some (w (5 + i)))))))), ((w 5), .inl (k 0, 768, .inl (fun _ => 0))), ((w 6), .inl (k 0, 768, .inl (fun _ => 0))), ((w 7), .inl (k 0, 768, .inl (fun _ => 0))), ((w 1), .inl (k 6, 8, .inr (.inr (.inr (.inr (fun _ => none)))))), ((w 2), .inl (k 6, 20, .inr (.inr (.inr (.inr (fun _ => none)))))), ((w 4), .inl (k 6, 6, .inr (.inr (.inr (.inr (fun _ => none))))))]) (w1 := [(mo, .inr (13, [.int 1, .ref (w 0), .int 0, .ref (w 1), .int 0, .int 0, .ref (w 2), .int 0, .ref (w 3), .ref (w 4), .int 0]))]) hP hD [0] [1, 2, 3, 4, 5, 6, 7] rfl rfl (by decide) (by decide) hk1 hFc hP1 hD1
    have hP : va_P D vwCl [((w 0), .inl (k 5, 3, .inr (.inr (.inr (.inr (fun i => some (w (5 + i)))))))), ((w 5), .inl (k 0, 768, .inl (fun _ => 0))), ((w 6), .inl (k 0, 768, .inl (fun _ => 0))), ((w 7), .inl (k 0, 768, .inl (fun _ => 0))), ((w 1), .inl (k 6, 8, .inr (.inr (.inr (.inr (fun _ => none)))))), ((w 2), .inl (k 6, 20, .inr (.inr (.inr (.inr (fun _ => none)))))), ((w 4), .inl (k 6, 6, .inr (.inr (.inr (.inr (fun _ => none)))))), (mo, .inr (13, [.int 1, .ref (w 0), .int 0, .ref (w 1), .int 0, .int 0, .ref (w 2), .int 0, .ref (w 3), .ref (w 4), .int 0]))] H := hP
    have hD : va_D A [((w 0), .inl (k 5, 3, .inr (.inr (.inr (.inr (fun i => some (w (5 + i)))))))), ((w 5), .inl (k 0, 768, .inl (fun _ => 0))), ((w 6), .inl (k 0, 768, .inl (fun _ => 0))), ((w 7), .inl (k 0, 768, .inl (fun _ => 0))), ((w 1), .inl (k 6, 8, .inr (.inr (.inr (.inr (fun _ => none)))))), ((w 2), .inl (k 6, 20, .inr (.inr (.inr (.inr (fun _ => none)))))), ((w 4), .inl (k 6, 6, .inr (.inr (.inr (.inr (fun _ => none)))))), (mo, .inr (13, [.int 1, .ref (w 0), .int 0, .ref (w 1), .int 0, .int 0, .ref (w 2), .int 0, .ref (w 3), .ref (w 4), .int 0]))] := hD
    have e_r3 : r3 = 1 := hw_r3.trans (by decide)
    subst e_r3
    refine lv_if_eq (tgt := 33) hx hb dX12_add_28 (by decide) (fun c_28 => absurd c_28 (by decide)) (fun c_28 => ?_)
    refine lv_iconst (v := 0) hx hb dX12_add_31 (by decide) ?_
    exact W.zret (v := 0) (ty := .boolean) hx hb hr (rfl) (fun t ht hW => ⟨⟨0, [.int 1, .ref (w 0), .int 0, .ref (w 1), .int 0, .int 0, .ref (w 2), .int 0, .ref (w 3), .ref (w 4), .int 0], rfl, Or.inr ⟨by omega, rfl⟩, ⟨by rw [ht]; exact hP.sub [7] rfl, hD.sub [7] (by decide) rfl⟩⟩, hS.F ht⟩) hS.2.2 dX12_add_32
  · have f_7 := bi_n hw_r1 c_7
    refine lv_iload_n hx hb dX12_add_10 rfl (lv_at hl 2 rfl) ?_
    refine lv_iload_n hx hb dX12_add_11 rfl (lv_at hl 3 rfl) ?_
    refine lv_iload hx hb dX12_add_12 (lv_at hl 4 rfl) ?_
    refine pz_i (va_runS (As := [.int x, .int y, .int z]) (rest := [.ref mo]) ⟨hx, hb, hml, hown, hts⟩ (k_X12_isTriple l D k s.heap x y z) (va_cwS 3 hts gX12_add_X12_isTriple rfl rfl rfl (by decide +kernel) ⟨Nat.le_of_ble_eq_true rfl, Nat.le_of_ble_eq_true rfl⟩) ⟨pPc_fb, pPc_go hC⟩ rfl rfl hl.1 rfl (lv_room (Nat.le_of_ble_eq_true rfl)) dX12_add_14 ⟨Nat.le_of_ble_eq_true rfl, Nat.le_of_ble_eq_true rfl⟩) hS (fun r5 locs hw_r5 hS => ?_)
    refine lv_if_ne (tgt := 24) hx hb dX12_add_17 (by decide) (fun c_17 => ?_) (fun c_17 => ?_)
    · have f_17 := bi_n hw_r5 c_17
      refine lv_iconst (v := 0) hx hb dX12_add_24 (by decide) ?_
      have hPc := hP.sub (ws' := [(mo, .inr (13, [.int 0, .ref (w 0), .int 0, .ref (w 1), .int 0, .int 0, .ref (w 2), .int 0, .ref (w 3), .ref (w 4), .int 0]))]) [0] rfl
      have hDc := hD.sub (ws' := [(mo, .inr (13, [.int 0, .ref (w 0), .int 0, .ref (w 1), .int 0, .int 0, .ref (w 2), .int 0, .ref (w 3), .ref (w 4), .int 0]))]) [0] (by decide) rfl
      have hFc := va_free (wc := [(mo, .inr (13, [.int 0, .ref (w 0), .int 0, .ref (w 1), .int 0, .int 0, .ref (w 2), .int 0, .ref (w 3), .ref (w 4), .int 0]))]) hD hS hA [0] rfl
      refine va_calli (va_runV (As := [.int 0]) (rest := []) ⟨hx, hb, hml, hown, hts⟩ (k_X12_fails l D k e0 s.heap.size mo w 0 0) (cwV 1 hts gX12_add_X12_fails rfl rfl rfl (by decide +kernel) ⟨Nat.le_of_ble_eq_true rfl, Nat.le_of_ble_eq_true rfl⟩) ⟨mPc_fb, va_recv hC.1 hPc (ci := 13) (q0 := 0) rfl rfl, mPc_go hC hHf hS hPc hDc hFc⟩ rfl rfl hl.1 rfl (lv_room (Nat.le_of_ble_eq_true rfl)) dX12_add_25 ⟨Nat.le_of_ble_eq_true rfl, Nat.le_of_ble_eq_true rfl⟩) hS (fun q9 _ h9 => hFc q9 h9) hFc (fun r7 u6 t H locs ht hvm hw_r7 hB hz1 hk1 hS => ?_)
      obtain ⟨hP1, hD1⟩ := hB
      rw [ht] at hP1
      obtain ⟨hP, hD⟩ := va_join (wr := [((w 0), .inl (k 5, 3, .inr (.inr (.inr (.inr (fun i => some (w (5 + i)))))))), ((w 5), .inl (k 0, 768, .inl (fun _ => 0))), ((w 6), .inl (k 0, 768, .inl (fun _ => 0))), ((w 7), .inl (k 0, 768, .inl (fun _ => 0))), ((w 1), .inl (k 6, 8, .inr (.inr (.inr (.inr (fun _ => none)))))), ((w 2), .inl (k 6, 20, .inr (.inr (.inr (.inr (fun _ => none)))))), ((w 4), .inl (k 6, 6, .inr (.inr (.inr (.inr (fun _ => none))))))]) (w1 := [(mo, .inr (13, [.int 0, .ref (w 0), .int 0, .ref (w 1), .int 0, .int 0, .ref (w 2), .int 0, .ref (w 3), .ref (w 4), .int 0]))]) hP hD [0] [1, 2, 3, 4, 5, 6, 7] rfl rfl (by decide) (by decide) hk1 hFc hP1 hD1
      have hP : va_P D vwCl [((w 0), .inl (k 5, 3, .inr (.inr (.inr (.inr (fun i => some (w (5 + i)))))))), ((w 5), .inl (k 0, 768, .inl (fun _ => 0))), ((w 6), .inl (k 0, 768, .inl (fun _ => 0))), ((w 7), .inl (k 0, 768, .inl (fun _ => 0))), ((w 1), .inl (k 6, 8, .inr (.inr (.inr (.inr (fun _ => none)))))), ((w 2), .inl (k 6, 20, .inr (.inr (.inr (.inr (fun _ => none)))))), ((w 4), .inl (k 6, 6, .inr (.inr (.inr (.inr (fun _ => none)))))), (mo, .inr (13, [.int 0, .ref (w 0), .int 0, .ref (w 1), .int 0, .int 0, .ref (w 2), .int 0, .ref (w 3), .ref (w 4), .int 0]))] H := hP
      have hD : va_D A [((w 0), .inl (k 5, 3, .inr (.inr (.inr (.inr (fun i => some (w (5 + i)))))))), ((w 5), .inl (k 0, 768, .inl (fun _ => 0))), ((w 6), .inl (k 0, 768, .inl (fun _ => 0))), ((w 7), .inl (k 0, 768, .inl (fun _ => 0))), ((w 1), .inl (k 6, 8, .inr (.inr (.inr (.inr (fun _ => none)))))), ((w 2), .inl (k 6, 20, .inr (.inr (.inr (.inr (fun _ => none)))))), ((w 4), .inl (k 6, 6, .inr (.inr (.inr (.inr (fun _ => none)))))), (mo, .inr (13, [.int 0, .ref (w 0), .int 0, .ref (w 1), .int 0, .int 0, .ref (w 2), .int 0, .ref (w 3), .ref (w 4), .int 0]))] := hD
      have e_r7 : r7 = 0 := hw_r7.trans (by decide)
      subst e_r7
      refine lv_if_eq (tgt := 33) hx hb dX12_add_28 (by decide) (fun c_28 => ?_) (fun c_28 => absurd (by decide) c_28)
      refine lv_iload_n hx hb dX12_add_33 rfl (lv_at hl 2 rfl) ?_
      refine lv_iload_n hx hb dX12_add_34 rfl (lv_at hl 3 rfl) ?_
      refine lv_iload hx hb dX12_add_35 (lv_at hl 4 rfl) ?_
      refine pz_i (va_runS (As := [.int x, .int y, .int z]) (rest := []) ⟨hx, hb, hml, hown, hts⟩ (k_X12_cell l D k H x y z) (va_cwS 3 hts gX12_add_X12_cell rfl rfl rfl (by decide +kernel) ⟨Nat.le_of_ble_eq_true rfl, Nat.le_of_ble_eq_true rfl⟩) ⟨pPc_fb, pPc_go hC⟩ rfl rfl hl.1 rfl (lv_room (Nat.le_of_ble_eq_true rfl)) dX12_add_37 ⟨Nat.le_of_ble_eq_true rfl, Nat.le_of_ble_eq_true rfl⟩) hS (fun r9 locs hw_r9 hS => ?_)
      obtain ⟨i, hi, e9⟩ := i32_cell f_17.1 f_17.2.1 f_17.2.2
      rw [← hw_r9] at e9
      subst e9
      refine lv_istore (lv' := [(5, .int (nI i)), (0, .ref mo), (1, .int g), (2, .int x), (3, .int y), (4, .int z)]) hx hb dX12_add_40 hl (by decide) rfl (fun ls hl => ?_)
      have hg : (0 ≤ g.toInt ∧ g.toInt < 3) := by omega
      obtain ⟨j, hj, rfl⟩ := nI_bd (n := 3) hg.1 hg.2 (by decide)
      have hP := hP.sub (ws' := [(mo, .inr (13, [.int 0, .ref (w 0), .int 0, .ref (w 1), .int 0, .int 0, .ref (w 2), .int 0, .ref (w 3), .ref (w 4), .int 0])), ((w 0), .inl (k 5, 3, .inr (.inr (.inr (.inr (fun i => some (w (5 + i)))))))), ((w 5), .inl (k 0, 768, .inl (fun _ => 0))), ((w 6), .inl (k 0, 768, .inl (fun _ => 0))), ((w 7), .inl (k 0, 768, .inl (fun _ => 0))), ((w 1), .inl (k 6, 8, .inr (.inr (.inr (.inr (fun _ => none)))))), ((w 2), .inl (k 6, 20, .inr (.inr (.inr (.inr (fun _ => none)))))), ((w 4), .inl (k 6, 6, .inr (.inr (.inr (.inr (fun _ => none))))))]) [7, 0, 1, 2, 3, 4, 5, 6] rfl
      have hD := hD.sub (ws' := [(mo, .inr (13, [.int 0, .ref (w 0), .int 0, .ref (w 1), .int 0, .int 0, .ref (w 2), .int 0, .ref (w 3), .ref (w 4), .int 0])), ((w 0), .inl (k 5, 3, .inr (.inr (.inr (.inr (fun i => some (w (5 + i)))))))), ((w 5), .inl (k 0, 768, .inl (fun _ => 0))), ((w 6), .inl (k 0, 768, .inl (fun _ => 0))), ((w 7), .inl (k 0, 768, .inl (fun _ => 0))), ((w 1), .inl (k 6, 8, .inr (.inr (.inr (.inr (fun _ => none)))))), ((w 2), .inl (k 6, 20, .inr (.inr (.inr (.inr (fun _ => none)))))), ((w 4), .inl (k 6, 6, .inr (.inr (.inr (.inr (fun _ => none))))))]) [7, 0, 1, 2, 3, 4, 5, 6] (by decide) rfl
      have hP : va_P D vwCl [(mo, .inr (13, [.int 0, .ref (w 0), .int 0, .ref (w 1), .int 0, .int 0, .ref (w 2), .int 0, .ref (w 3), .ref (w 4), .int 0])), ((w 0), .inl (k 5, 3, .inr (.inr (.inr (.inr (fun i => some (w (5 + i)))))))), ((w (5 + j)), .inl (k 0, 768, .inl (fun _ => 0)))] H := wM_j hP hj
      have hD : va_D A [(mo, .inr (13, [.int 0, .ref (w 0), .int 0, .ref (w 1), .int 0, .int 0, .ref (w 2), .int 0, .ref (w 3), .ref (w 4), .int 0])), ((w 0), .inl (k 5, 3, .inr (.inr (.inr (.inr (fun i => some (w (5 + i)))))))), ((w (5 + j)), .inl (k 0, 768, .inl (fun _ => 0)))] := wM_jD hD hj
      refine lv_aload_n hx hb dX12_add_42 rfl (lv_at hl 1 rfl) ?_
      refine va_get (D := D) (ci := 13) (v := .ref (w 0)) (C := RX12) (T := TX12) (N := 11) hx hb hts (by decide +kernel) hown hC.1 hP 0 rfl rfl 1 (by decide) (hts (.fieldLink RX12 11 "TriplegarthModel" "there" "[[Z") (by decide +kernel)) (fun _ h9 => h9) rfl dX12_add_43 ?_
      refine lv_iload_n hx hb dX12_add_46 rfl (lv_at hl 2 rfl) ?_
      refine w_aldA hx hb hC.1 hP 1 5 rfl rfl (vp_in_nI (show j < 3 by omega) (by decide)) dX12_add_47 ?_
      refine w_topr (y := .ref (w (5 + j))) (by rw [nI_clamp (show j < 2 ^ 31 by omega)]; rfl) ?_
      refine lv_iload hx hb dX12_add_48 (lv_at hl 0 rfl) ?_
      refine va_zald hx hb hC.1 hP 2 0 rfl rfl (vp_in_nI (show i < 768 by omega) (by decide)) dX12_add_50 ?_
      refine w_top (y := 0) rfl ?_
      refine lv_if_ne (tgt := 75) hx hb dX12_add_51 (by decide) (fun c_51 => absurd c_51 (by decide)) (fun c_51 => ?_)
      refine lv_aload_n hx hb dX12_add_54 rfl (lv_at hl 1 rfl) ?_
      refine lv_aload_n hx hb dX12_add_55 rfl (lv_at hl 1 rfl) ?_
      refine va_get (D := D) (ci := 13) (v := .int 0) (C := RX12) (T := TX12) (N := 11) hx hb hts (by decide +kernel) hown hC.1 hP 0 rfl rfl 2 (by decide) (hts (.fieldLink RX12 51 "TriplegarthModel" "many" "I") (by decide +kernel)) (fun _ h9 => h9) rfl dX12_add_56 ?_
      refine lv_bipush (v := 60) hx hb dX12_add_59 (by decide) ?_
      refine lv_icmp_ne (tgt := 68) hx hb dX12_add_61 (by decide) (fun c_61 => ?_) (fun c_61 => absurd c_61 (by decide))
      refine lv_iconst (v := 0) hx hb dX12_add_68 (by decide) ?_
      have hPc := hP.sub (ws' := [(mo, .inr (13, [.int 0, .ref (w 0), .int 0, .ref (w 1), .int 0, .int 0, .ref (w 2), .int 0, .ref (w 3), .ref (w 4), .int 0]))]) [0] rfl
      have hDc := hD.sub (ws' := [(mo, .inr (13, [.int 0, .ref (w 0), .int 0, .ref (w 1), .int 0, .int 0, .ref (w 2), .int 0, .ref (w 3), .ref (w 4), .int 0]))]) [0] (by decide) rfl
      have hFc := va_free (wc := [(mo, .inr (13, [.int 0, .ref (w 0), .int 0, .ref (w 1), .int 0, .int 0, .ref (w 2), .int 0, .ref (w 3), .ref (w 4), .int 0]))]) hD hS hA [0] rfl
      refine va_calli (va_runV (As := [.int 0]) (rest := []) ⟨hx, hb, hml, hown, hts⟩ (k_X12_fails l D k e0 H.size mo w 0 0) (cwV 1 hts gX12_add_X12_fails rfl rfl rfl (by decide +kernel) ⟨Nat.le_of_ble_eq_true rfl, Nat.le_of_ble_eq_true rfl⟩) ⟨mPc_fb, va_recv hC.1 hPc (ci := 13) (q0 := 0) rfl rfl, mPc_go hC hHf hS hPc hDc hFc⟩ rfl rfl hl.1 rfl (lv_room (Nat.le_of_ble_eq_true rfl)) dX12_add_69 ⟨Nat.le_of_ble_eq_true rfl, Nat.le_of_ble_eq_true rfl⟩) hS (fun q9 _ h9 => hFc q9 h9) hFc (fun r11 u10 t H locs ht hvm hw_r11 hB hz1 hk1 hS => ?_)
      obtain ⟨hP1, hD1⟩ := hB
      rw [ht] at hP1
      obtain ⟨hP, hD⟩ := va_join (wr := [((w 0), .inl (k 5, 3, .inr (.inr (.inr (.inr (fun i => some (w (5 + i)))))))), ((w (5 + j)), .inl (k 0, 768, .inl (fun _ => 0)))]) (w1 := [(mo, .inr (13, [.int 0, .ref (w 0), .int 0, .ref (w 1), .int 0, .int 0, .ref (w 2), .int 0, .ref (w 3), .ref (w 4), .int 0]))]) hP hD [0] [1, 2] rfl rfl (by decide) (by decide) hk1 hFc hP1 hD1
      have hP : va_P D vwCl [((w 0), .inl (k 5, 3, .inr (.inr (.inr (.inr (fun i => some (w (5 + i)))))))), ((w (5 + j)), .inl (k 0, 768, .inl (fun _ => 0))), (mo, .inr (13, [.int 0, .ref (w 0), .int 0, .ref (w 1), .int 0, .int 0, .ref (w 2), .int 0, .ref (w 3), .ref (w 4), .int 0]))] H := hP
      have hD : va_D A [((w 0), .inl (k 5, 3, .inr (.inr (.inr (.inr (fun i => some (w (5 + i)))))))), ((w (5 + j)), .inl (k 0, 768, .inl (fun _ => 0))), (mo, .inr (13, [.int 0, .ref (w 0), .int 0, .ref (w 1), .int 0, .int 0, .ref (w 2), .int 0, .ref (w 3), .ref (w 4), .int 0]))] := hD
      have e_r11 : r11 = 0 := hw_r11.trans (by decide)
      subst e_r11
      refine lv_if_eq (tgt := 77) hx hb dX12_add_72 (by decide) (fun c_72 => ?_) (fun c_72 => absurd (by decide) c_72)
      refine lv_aload_n hx hb dX12_add_77 rfl (lv_at hl 1 rfl) ?_
      refine va_get (D := D) (ci := 13) (v := .ref (w 0)) (C := RX12) (T := TX12) (N := 11) hx hb hts (by decide +kernel) hown hC.1 hP 2 rfl rfl 1 (by decide) (hts (.fieldLink RX12 11 "TriplegarthModel" "there" "[[Z") (by decide +kernel)) (fun _ h9 => h9) rfl dX12_add_78 ?_
      refine lv_iload_n hx hb dX12_add_81 rfl (lv_at hl 2 rfl) ?_
      refine w_aldA hx hb hC.1 hP 0 5 rfl rfl (vp_in_nI (show j < 3 by omega) (by decide)) dX12_add_82 ?_
      refine w_topr (y := .ref (w (5 + j))) (by rw [nI_clamp (show j < 2 ^ 31 by omega)]; rfl) ?_
      refine lv_iload hx hb dX12_add_83 (lv_at hl 0 rfl) ?_
      refine lv_iconst (v := 1) hx hb dX12_add_85 (by decide) ?_
      refine va_zast hx hb hC.1 hP hD hS 1 0 rfl rfl (vp_in_nI (show i < 768 by omega) (by decide)) dX12_add_86 (fun H locs hP hD hS => ?_)
      have hP : va_P D vwCl [((w 0), .inl (k 5, 3, .inr (.inr (.inr (.inr (fun i => some (w (5 + i)))))))), ((w (5 + j)), .inl (k 0, 768, .inl (upd (fun _ => 0) (nI i).toNatClampNeg (vp_nar .boolean 1)))), (mo, .inr (13, [.int 0, .ref (w 0), .int 0, .ref (w 1), .int 0, .int 0, .ref (w 2), .int 0, .ref (w 3), .ref (w 4), .int 0]))] H := hP
      have hD : va_D A [((w 0), .inl (k 5, 3, .inr (.inr (.inr (.inr (fun i => some (w (5 + i)))))))), ((w (5 + j)), .inl (k 0, 768, .inl (upd (fun _ => 0) (nI i).toNatClampNeg (vp_nar .boolean 1)))), (mo, .inr (13, [.int 0, .ref (w 0), .int 0, .ref (w 1), .int 0, .int 0, .ref (w 2), .int 0, .ref (w 3), .ref (w 4), .int 0]))] := hD
      refine lv_aload_n hx hb dX12_add_87 rfl (lv_at hl 1 rfl) ?_
      refine lv_dup hx hb dX12_add_88 rfl ?_
      refine va_get (D := D) (ci := 13) (v := .int 0) (C := RX12) (T := TX12) (N := 11) hx hb hts (by decide +kernel) hown hC.1 hP 2 rfl rfl 2 (by decide) (hts (.fieldLink RX12 51 "TriplegarthModel" "many" "I") (by decide +kernel)) (fun _ h9 => h9) rfl dX12_add_89 ?_
      refine lv_iconst (v := 1) hx hb dX12_add_92 (by decide) ?_
      refine lv_iadd hx hb dX12_add_93 ?_
      refine w_top (y := 1) (by decide) ?_
      refine va_put (D := D) (ci := 13) (v := .int 1) (ty := .int) (C := RX12) (T := TX12) (N := 11) hx hb hts (by decide +kernel) tyX12 tyX12_ok nmX12 hown hC.1 hP hD hS 2 rfl rfl 2 (by decide) (hts (.fieldLink RX12 51 "TriplegarthModel" "many" "I") (by decide +kernel)) (fun _ h9 => h9) rfl (by decide +kernel) rfl rfl (Nat.le_of_ble_eq_true rfl) dX12_add_94 (fun H locs hP hD hS => ?_)
      have hP : va_P D vwCl [((w 0), .inl (k 5, 3, .inr (.inr (.inr (.inr (fun i => some (w (5 + i)))))))), ((w (5 + j)), .inl (k 0, 768, .inl (upd (fun _ => 0) (nI i).toNatClampNeg (vp_nar .boolean 1)))), (mo, .inr (13, [.int 0, .ref (w 0), .int 1, .ref (w 1), .int 0, .int 0, .ref (w 2), .int 0, .ref (w 3), .ref (w 4), .int 0]))] H := hP
      have hD : va_D A [((w 0), .inl (k 5, 3, .inr (.inr (.inr (.inr (fun i => some (w (5 + i)))))))), ((w (5 + j)), .inl (k 0, 768, .inl (upd (fun _ => 0) (nI i).toNatClampNeg (vp_nar .boolean 1)))), (mo, .inr (13, [.int 0, .ref (w 0), .int 1, .ref (w 1), .int 0, .int 0, .ref (w 2), .int 0, .ref (w 3), .ref (w 4), .int 0]))] := hD
      refine lv_iconst (v := 1) hx hb dX12_add_97 (by decide) ?_
      exact W.zret (v := 1) (ty := .boolean) hx hb hr (rfl) (fun t ht hW => ⟨⟨1, [.int 0, .ref (w 0), .int 1, .ref (w 1), .int 0, .int 0, .ref (w 2), .int 0, .ref (w 3), .ref (w 4), .int 0], rfl, Or.inl ⟨⟨hg, f_17⟩, rfl, rfl⟩, ⟨by rw [ht]; exact hP.sub [2] rfl, hD.sub [2] (by decide) rfl⟩⟩, hS.F ht⟩) hS.2.2 dX12_add_98
    · have f_17 := bi_z hw_r5 c_17
      refine lv_iconst (v := 1) hx hb dX12_add_20 (by decide) ?_
      refine lv_goto (tgt := 25) hx hb dX12_add_21 (by decide) ?_
      have hPc := hP.sub (ws' := [(mo, .inr (13, [.int 0, .ref (w 0), .int 0, .ref (w 1), .int 0, .int 0, .ref (w 2), .int 0, .ref (w 3), .ref (w 4), .int 0]))]) [0] rfl
      have hDc := hD.sub (ws' := [(mo, .inr (13, [.int 0, .ref (w 0), .int 0, .ref (w 1), .int 0, .int 0, .ref (w 2), .int 0, .ref (w 3), .ref (w 4), .int 0]))]) [0] (by decide) rfl
      have hFc := va_free (wc := [(mo, .inr (13, [.int 0, .ref (w 0), .int 0, .ref (w 1), .int 0, .int 0, .ref (w 2), .int 0, .ref (w 3), .ref (w 4), .int 0]))]) hD hS hA [0] rfl
      refine va_calli (va_runV (As := [.int 1]) (rest := []) ⟨hx, hb, hml, hown, hts⟩ (k_X12_fails l D k e0 s.heap.size mo w 0 1) (cwV 1 hts gX12_add_X12_fails rfl rfl rfl (by decide +kernel) ⟨Nat.le_of_ble_eq_true rfl, Nat.le_of_ble_eq_true rfl⟩) ⟨mPc_fb, va_recv hC.1 hPc (ci := 13) (q0 := 0) rfl rfl, mPc_go hC hHf hS hPc hDc hFc⟩ rfl rfl hl.1 rfl (lv_room (Nat.le_of_ble_eq_true rfl)) dX12_add_25 ⟨Nat.le_of_ble_eq_true rfl, Nat.le_of_ble_eq_true rfl⟩) hS (fun q9 _ h9 => hFc q9 h9) hFc (fun r14 u13 t H locs ht hvm hw_r14 hB hz1 hk1 hS => ?_)
      obtain ⟨hP1, hD1⟩ := hB
      rw [ht] at hP1
      obtain ⟨hP, hD⟩ := va_join (wr := [((w 0), .inl (k 5, 3, .inr (.inr (.inr (.inr (fun i => some (w (5 + i)))))))), ((w 5), .inl (k 0, 768, .inl (fun _ => 0))), ((w 6), .inl (k 0, 768, .inl (fun _ => 0))), ((w 7), .inl (k 0, 768, .inl (fun _ => 0))), ((w 1), .inl (k 6, 8, .inr (.inr (.inr (.inr (fun _ => none)))))), ((w 2), .inl (k 6, 20, .inr (.inr (.inr (.inr (fun _ => none)))))), ((w 4), .inl (k 6, 6, .inr (.inr (.inr (.inr (fun _ => none))))))]) (w1 := [(mo, .inr (13, [.int 1, .ref (w 0), .int 0, .ref (w 1), .int 0, .int 0, .ref (w 2), .int 0, .ref (w 3), .ref (w 4), .int 0]))]) hP hD [0] [1, 2, 3, 4, 5, 6, 7] rfl rfl (by decide) (by decide) hk1 hFc hP1 hD1
      have hP : va_P D vwCl [((w 0), .inl (k 5, 3, .inr (.inr (.inr (.inr (fun i => some (w (5 + i)))))))), ((w 5), .inl (k 0, 768, .inl (fun _ => 0))), ((w 6), .inl (k 0, 768, .inl (fun _ => 0))), ((w 7), .inl (k 0, 768, .inl (fun _ => 0))), ((w 1), .inl (k 6, 8, .inr (.inr (.inr (.inr (fun _ => none)))))), ((w 2), .inl (k 6, 20, .inr (.inr (.inr (.inr (fun _ => none)))))), ((w 4), .inl (k 6, 6, .inr (.inr (.inr (.inr (fun _ => none)))))), (mo, .inr (13, [.int 1, .ref (w 0), .int 0, .ref (w 1), .int 0, .int 0, .ref (w 2), .int 0, .ref (w 3), .ref (w 4), .int 0]))] H := hP
      have hD : va_D A [((w 0), .inl (k 5, 3, .inr (.inr (.inr (.inr (fun i => some (w (5 + i)))))))), ((w 5), .inl (k 0, 768, .inl (fun _ => 0))), ((w 6), .inl (k 0, 768, .inl (fun _ => 0))), ((w 7), .inl (k 0, 768, .inl (fun _ => 0))), ((w 1), .inl (k 6, 8, .inr (.inr (.inr (.inr (fun _ => none)))))), ((w 2), .inl (k 6, 20, .inr (.inr (.inr (.inr (fun _ => none)))))), ((w 4), .inl (k 6, 6, .inr (.inr (.inr (.inr (fun _ => none)))))), (mo, .inr (13, [.int 1, .ref (w 0), .int 0, .ref (w 1), .int 0, .int 0, .ref (w 2), .int 0, .ref (w 3), .ref (w 4), .int 0]))] := hD
      have e_r14 : r14 = 1 := hw_r14.trans (by decide)
      subst e_r14
      refine lv_if_eq (tgt := 33) hx hb dX12_add_28 (by decide) (fun c_28 => absurd c_28 (by decide)) (fun c_28 => ?_)
      refine lv_iconst (v := 0) hx hb dX12_add_31 (by decide) ?_
      exact W.zret (v := 0) (ty := .boolean) hx hb hr (rfl) (fun t ht hW => ⟨⟨0, [.int 1, .ref (w 0), .int 0, .ref (w 1), .int 0, .int 0, .ref (w 2), .int 0, .ref (w 3), .ref (w 4), .int 0], rfl, Or.inr ⟨by omega, rfl⟩, ⟨by rw [ht]; exact hP.sub [7] rfl, hD.sub [7] (by decide) rfl⟩⟩, hS.F ht⟩) hS.2.2 dX12_add_32

set_option maxHeartbeats 4000000 in
set_option maxRecDepth 100000 in
theorem k_X12_remove (l : Launch) (D : va_G) (k : Nat → ClassId) (e0 : Nat) (sz : Nat) (mo : Nat) (w : Nat → Nat) (g x y z : Int32) : Met l yX12_remove wsX12_remove ({ frames := 2, cells := 0, slots := 0, locals := 44 }) (mPc D k e0 sz [.ref mo, .int g, .int x, .int y, .int z] [(mo, .inr (13, [.int 0, .ref (w 0), .int 0, .ref (w 1), .int 0, .int 0, .ref (w 2), .int 0, .ref (w 3), .ref (w 4), .int 0])), ((w 0), .inl (k 5, 3, .inr (.inr (.inr (.inr (fun i => some (w (5 + i)))))))), ((w 5), .inl (k 0, 768, .inl (fun _ => 0))), ((w 6), .inl (k 0, 768, .inl (fun _ => 0))), ((w 7), .inl (k 0, 768, .inl (fun _ => 0))), ((w 1), .inl (k 6, 8, .inr (.inr (.inr (.inr (fun _ => none)))))), ((w 2), .inl (k 6, 20, .inr (.inr (.inr (.inr (fun _ => none)))))), ((w 4), .inl (k 6, 6, .inr (.inr (.inr (.inr (fun _ => none))))))]) (va_Qi (fun r (u : List Value) => (((0 ≤ g.toInt ∧ g.toInt < 3) ∧ ((0 ≤ x.toInt ∧ x.toInt < 8) ∧ (0 ≤ y.toInt ∧ y.toInt < 8) ∧ (0 ≤ z.toInt ∧ z.toInt < 12))) ∧ u[0]? = some (.int 0) ∧ r = 0) ∨ (¬ ((0 ≤ g.toInt ∧ g.toInt < 3) ∧ ((0 ≤ x.toInt ∧ x.toInt < 8) ∧ (0 ≤ y.toInt ∧ y.toInt < 8) ∧ (0 ≤ z.toInt ∧ z.toInt < 12))) ∧ u[0]? = some (.int 1))) (fun u t => va_P D vwCl [(mo, .inr (13, u))] t.heap ∧ va_D (va_A [(mo, .inr (13, [.int 0, .ref (w 0), .int 0, .ref (w 1), .int 0, .int 0, .ref (w 2), .int 0, .ref (w 3), .ref (w 4), .int 0])), ((w 0), .inl (k 5, 3, .inr (.inr (.inr (.inr (fun i => some (w (5 + i)))))))), ((w 5), .inl (k 0, 768, .inl (fun _ => 0))), ((w 6), .inl (k 0, 768, .inl (fun _ => 0))), ((w 7), .inl (k 0, 768, .inl (fun _ => 0))), ((w 1), .inl (k 6, 8, .inr (.inr (.inr (.inr (fun _ => none)))))), ((w 2), .inl (k 6, 20, .inr (.inr (.inr (.inr (fun _ => none)))))), ((w 4), .inl (k 6, 6, .inr (.inr (.inr (.inr (fun _ => none))))))] sz) [(mo, .inr (13, u))]) (va_A [(mo, .inr (13, [.int 0, .ref (w 0), .int 0, .ref (w 1), .int 0, .int 0, .ref (w 2), .int 0, .ref (w 3), .ref (w 4), .int 0])), ((w 0), .inl (k 5, 3, .inr (.inr (.inr (.inr (fun i => some (w (5 + i)))))))), ((w 5), .inl (k 0, 768, .inl (fun _ => 0))), ((w 6), .inl (k 0, 768, .inl (fun _ => 0))), ((w 7), .inl (k 0, 768, .inl (fun _ => 0))), ((w 1), .inl (k 6, 8, .inr (.inr (.inr (.inr (fun _ => none)))))), ((w 2), .inl (k 6, 20, .inr (.inr (.inr (.inr (fun _ => none)))))), ((w 4), .inl (k 6, 6, .inr (.inr (.inr (.inr (fun _ => none))))))] sz)) 0 0 (va_A [(mo, .inr (13, [.int 0, .ref (w 0), .int 0, .ref (w 1), .int 0, .int 0, .ref (w 2), .int 0, .ref (w 3), .ref (w 4), .int 0])), ((w 0), .inl (k 5, 3, .inr (.inr (.inr (.inr (fun i => some (w (5 + i)))))))), ((w 5), .inl (k 0, 768, .inl (fun _ => 0))), ((w 6), .inl (k 0, 768, .inl (fun _ => 0))), ((w 7), .inl (k 0, 768, .inl (fun _ => 0))), ((w 1), .inl (k 6, 8, .inr (.inr (.inr (.inr (fun _ => none)))))), ((w 2), .inl (k 6, 20, .inr (.inr (.inr (.inr (fun _ => none)))))), ((w 4), .inl (k 6, 6, .inr (.inr (.inr (.inr (fun _ => none))))))] sz) := by
  refine Met.ofW (cc := cX12_remove) (maxL := 7) (ret := (some .boolean)) (by decide) rfl ?_
  intro p e s m args below meth c s₁ B hml hv
  obtain ⟨rfl, rfl, hP, hC, hD0, hHf⟩ := hv
  have hx := B.exec
  have hb := B.bytes
  have hr := B.returns
  have hts := atoms_spec (ws := wsX12_remove) B.pre
  have hown : s.vm.findClass RX12 = some m.cls := findClass_of_methodNamed B.named
  have hlocks := B.notSynchronized
  have hD := hD0.self (sz := s.heap.size)
  generalize hAe : va_A [(mo, .inr (13, [.int 0, .ref (w 0), .int 0, .ref (w 1), .int 0, .int 0, .ref (w 2), .int 0, .ref (w 3), .ref (w 4), .int 0])), ((w 0), .inl (k 5, 3, .inr (.inr (.inr (.inr (fun i => some (w (5 + i)))))))), ((w 5), .inl (k 0, 768, .inl (fun _ => 0))), ((w 6), .inl (k 0, 768, .inl (fun _ => 0))), ((w 7), .inl (k 0, 768, .inl (fun _ => 0))), ((w 1), .inl (k 6, 8, .inr (.inr (.inr (.inr (fun _ => none)))))), ((w 2), .inl (k 6, 20, .inr (.inr (.inr (.inr (fun _ => none)))))), ((w 4), .inl (k 6, 6, .inr (.inr (.inr (.inr (fun _ => none))))))] s.heap.size = A at hD hHf ⊢
  have hA : ∀ q : Nat, s.heap.size ≤ q → A q := fun q h => by rw [← hAe]; exact Or.inr h
  have hS : va_S A s.heap s.heap [] := va_S.rf
  refine w_entry (Nat.le_of_ble_eq_true rfl) (fun ls hl => ?_)
  have hl : lv_has ls 7 [(0, .ref mo), (1, .int g), (2, .int x), (3, .int y), (4, .int z)] := hl
  refine lv_aload_n hx hb dX12_remove_0 rfl (lv_at hl 0 rfl) ?_
  refine lv_iload_n hx hb dX12_remove_1 rfl (lv_at hl 1 rfl) ?_
  refine lv_iconst (v := 0) hx hb dX12_remove_2 (by decide) ?_
  refine lv_iconst (v := 2) hx hb dX12_remove_3 (by decide) ?_
  refine pz_i (va_runS (As := [.int g, .int 0, .int 2]) (rest := [.ref mo]) ⟨hx, hb, hml, hown, hts⟩ (k_X12_in l D k s.heap g 0 2) (va_cwS 3 hts gX12_remove_X12_in rfl rfl rfl (by decide +kernel) ⟨Nat.le_of_ble_eq_true rfl, Nat.le_of_ble_eq_true rfl⟩) ⟨pPc_fb, pPc_go hC⟩ rfl rfl hl.1 rfl (lv_room (Nat.le_of_ble_eq_true rfl)) dX12_remove_4 ⟨Nat.le_of_ble_eq_true rfl, Nat.le_of_ble_eq_true rfl⟩) hS (fun r1 locs hw_r1 hS => ?_)
  have hw_r1 : r1 = bi (0 ≤ g.toInt ∧ g.toInt ≤ 2) := hw_r1
  refine lv_if_eq (tgt := 20) hx hb dX12_remove_7 (by decide) (fun c_7 => ?_) (fun c_7 => ?_)
  · have f_7 := bi_z hw_r1 c_7
    refine lv_iconst (v := 1) hx hb dX12_remove_20 (by decide) ?_
    refine lv_goto (tgt := 25) hx hb dX12_remove_21 (by decide) ?_
    have hPc := hP.sub (ws' := [(mo, .inr (13, [.int 0, .ref (w 0), .int 0, .ref (w 1), .int 0, .int 0, .ref (w 2), .int 0, .ref (w 3), .ref (w 4), .int 0]))]) [0] rfl
    have hDc := hD.sub (ws' := [(mo, .inr (13, [.int 0, .ref (w 0), .int 0, .ref (w 1), .int 0, .int 0, .ref (w 2), .int 0, .ref (w 3), .ref (w 4), .int 0]))]) [0] (by decide) rfl
    have hFc := va_free (wc := [(mo, .inr (13, [.int 0, .ref (w 0), .int 0, .ref (w 1), .int 0, .int 0, .ref (w 2), .int 0, .ref (w 3), .ref (w 4), .int 0]))]) hD hS hA [0] rfl
    refine va_calli (va_runV (As := [.int 1]) (rest := []) ⟨hx, hb, hml, hown, hts⟩ (k_X12_fails l D k e0 s.heap.size mo w 0 1) (cwV 1 hts gX12_remove_X12_fails rfl rfl rfl (by decide +kernel) ⟨Nat.le_of_ble_eq_true rfl, Nat.le_of_ble_eq_true rfl⟩) ⟨mPc_fb, va_recv hC.1 hPc (ci := 13) (q0 := 0) rfl rfl, mPc_go hC hHf hS hPc hDc hFc⟩ rfl rfl hl.1 rfl (lv_room (Nat.le_of_ble_eq_true rfl)) dX12_remove_25 ⟨Nat.le_of_ble_eq_true rfl, Nat.le_of_ble_eq_true rfl⟩) hS (fun q9 _ h9 => hFc q9 h9) hFc (fun r3 u2 t H locs ht hvm hw_r3 hB hz1 hk1 hS => ?_)
    obtain ⟨hP1, hD1⟩ := hB
    rw [ht] at hP1
    obtain ⟨hP, hD⟩ := va_join (wr := [((w 0), .inl (k 5, 3, .inr (.inr (.inr (.inr (fun i => some (w (5 + i)))))))), ((w 5), .inl (k 0, 768, .inl (fun _ => 0))), ((w 6), .inl (k 0, 768, .inl (fun _ => 0))), ((w 7), .inl (k 0, 768, .inl (fun _ => 0))), ((w 1), .inl (k 6, 8, .inr (.inr (.inr (.inr (fun _ => none)))))), ((w 2), .inl (k 6, 20, .inr (.inr (.inr (.inr (fun _ => none)))))), ((w 4), .inl (k 6, 6, .inr (.inr (.inr (.inr (fun _ => none))))))]) (w1 := [(mo, .inr (13, [.int 1, .ref (w 0), .int 0, .ref (w 1), .int 0, .int 0, .ref (w 2), .int 0, .ref (w 3), .ref (w 4), .int 0]))]) hP hD [0] [1, 2, 3, 4, 5, 6, 7] rfl rfl (by decide) (by decide) hk1 hFc hP1 hD1
    have hP : va_P D vwCl [((w 0), .inl (k 5, 3, .inr (.inr (.inr (.inr (fun i => some (w (5 + i)))))))), ((w 5), .inl (k 0, 768, .inl (fun _ => 0))), ((w 6), .inl (k 0, 768, .inl (fun _ => 0))), ((w 7), .inl (k 0, 768, .inl (fun _ => 0))), ((w 1), .inl (k 6, 8, .inr (.inr (.inr (.inr (fun _ => none)))))), ((w 2), .inl (k 6, 20, .inr (.inr (.inr (.inr (fun _ => none)))))), ((w 4), .inl (k 6, 6, .inr (.inr (.inr (.inr (fun _ => none)))))), (mo, .inr (13, [.int 1, .ref (w 0), .int 0, .ref (w 1), .int 0, .int 0, .ref (w 2), .int 0, .ref (w 3), .ref (w 4), .int 0]))] H := hP
    have hD : va_D A [((w 0), .inl (k 5, 3, .inr (.inr (.inr (.inr (fun i => some (w (5 + i)))))))), ((w 5), .inl (k 0, 768, .inl (fun _ => 0))), ((w 6), .inl (k 0, 768, .inl (fun _ => 0))), ((w 7), .inl (k 0, 768, .inl (fun _ => 0))), ((w 1), .inl (k 6, 8, .inr (.inr (.inr (.inr (fun _ => none)))))), ((w 2), .inl (k 6, 20, .inr (.inr (.inr (.inr (fun _ => none)))))), ((w 4), .inl (k 6, 6, .inr (.inr (.inr (.inr (fun _ => none)))))), (mo, .inr (13, [.int 1, .ref (w 0), .int 0, .ref (w 1), .int 0, .int 0, .ref (w 2), .int 0, .ref (w 3), .ref (w 4), .int 0]))] := hD
    have e_r3 : r3 = 1 := hw_r3.trans (by decide)
    subst e_r3
    refine lv_if_eq (tgt := 33) hx hb dX12_remove_28 (by decide) (fun c_28 => absurd c_28 (by decide)) (fun c_28 => ?_)
    refine lv_iconst (v := 0) hx hb dX12_remove_31 (by decide) ?_
    exact W.zret (v := 0) (ty := .boolean) hx hb hr (rfl) (fun t ht hW => ⟨⟨0, [.int 1, .ref (w 0), .int 0, .ref (w 1), .int 0, .int 0, .ref (w 2), .int 0, .ref (w 3), .ref (w 4), .int 0], rfl, Or.inr ⟨by omega, rfl⟩, ⟨by rw [ht]; exact hP.sub [7] rfl, hD.sub [7] (by decide) rfl⟩⟩, hS.F ht⟩) hS.2.2 dX12_remove_32
  · have f_7 := bi_n hw_r1 c_7
    refine lv_iload_n hx hb dX12_remove_10 rfl (lv_at hl 2 rfl) ?_
    refine lv_iload_n hx hb dX12_remove_11 rfl (lv_at hl 3 rfl) ?_
    refine lv_iload hx hb dX12_remove_12 (lv_at hl 4 rfl) ?_
    refine pz_i (va_runS (As := [.int x, .int y, .int z]) (rest := [.ref mo]) ⟨hx, hb, hml, hown, hts⟩ (k_X12_isTriple l D k s.heap x y z) (va_cwS 3 hts gX12_remove_X12_isTriple rfl rfl rfl (by decide +kernel) ⟨Nat.le_of_ble_eq_true rfl, Nat.le_of_ble_eq_true rfl⟩) ⟨pPc_fb, pPc_go hC⟩ rfl rfl hl.1 rfl (lv_room (Nat.le_of_ble_eq_true rfl)) dX12_remove_14 ⟨Nat.le_of_ble_eq_true rfl, Nat.le_of_ble_eq_true rfl⟩) hS (fun r5 locs hw_r5 hS => ?_)
    refine lv_if_ne (tgt := 24) hx hb dX12_remove_17 (by decide) (fun c_17 => ?_) (fun c_17 => ?_)
    · have f_17 := bi_n hw_r5 c_17
      refine lv_iconst (v := 0) hx hb dX12_remove_24 (by decide) ?_
      have hPc := hP.sub (ws' := [(mo, .inr (13, [.int 0, .ref (w 0), .int 0, .ref (w 1), .int 0, .int 0, .ref (w 2), .int 0, .ref (w 3), .ref (w 4), .int 0]))]) [0] rfl
      have hDc := hD.sub (ws' := [(mo, .inr (13, [.int 0, .ref (w 0), .int 0, .ref (w 1), .int 0, .int 0, .ref (w 2), .int 0, .ref (w 3), .ref (w 4), .int 0]))]) [0] (by decide) rfl
      have hFc := va_free (wc := [(mo, .inr (13, [.int 0, .ref (w 0), .int 0, .ref (w 1), .int 0, .int 0, .ref (w 2), .int 0, .ref (w 3), .ref (w 4), .int 0]))]) hD hS hA [0] rfl
      refine va_calli (va_runV (As := [.int 0]) (rest := []) ⟨hx, hb, hml, hown, hts⟩ (k_X12_fails l D k e0 s.heap.size mo w 0 0) (cwV 1 hts gX12_remove_X12_fails rfl rfl rfl (by decide +kernel) ⟨Nat.le_of_ble_eq_true rfl, Nat.le_of_ble_eq_true rfl⟩) ⟨mPc_fb, va_recv hC.1 hPc (ci := 13) (q0 := 0) rfl rfl, mPc_go hC hHf hS hPc hDc hFc⟩ rfl rfl hl.1 rfl (lv_room (Nat.le_of_ble_eq_true rfl)) dX12_remove_25 ⟨Nat.le_of_ble_eq_true rfl, Nat.le_of_ble_eq_true rfl⟩) hS (fun q9 _ h9 => hFc q9 h9) hFc (fun r7 u6 t H locs ht hvm hw_r7 hB hz1 hk1 hS => ?_)
      obtain ⟨hP1, hD1⟩ := hB
      rw [ht] at hP1
      obtain ⟨hP, hD⟩ := va_join (wr := [((w 0), .inl (k 5, 3, .inr (.inr (.inr (.inr (fun i => some (w (5 + i)))))))), ((w 5), .inl (k 0, 768, .inl (fun _ => 0))), ((w 6), .inl (k 0, 768, .inl (fun _ => 0))), ((w 7), .inl (k 0, 768, .inl (fun _ => 0))), ((w 1), .inl (k 6, 8, .inr (.inr (.inr (.inr (fun _ => none)))))), ((w 2), .inl (k 6, 20, .inr (.inr (.inr (.inr (fun _ => none)))))), ((w 4), .inl (k 6, 6, .inr (.inr (.inr (.inr (fun _ => none))))))]) (w1 := [(mo, .inr (13, [.int 0, .ref (w 0), .int 0, .ref (w 1), .int 0, .int 0, .ref (w 2), .int 0, .ref (w 3), .ref (w 4), .int 0]))]) hP hD [0] [1, 2, 3, 4, 5, 6, 7] rfl rfl (by decide) (by decide) hk1 hFc hP1 hD1
      have hP : va_P D vwCl [((w 0), .inl (k 5, 3, .inr (.inr (.inr (.inr (fun i => some (w (5 + i)))))))), ((w 5), .inl (k 0, 768, .inl (fun _ => 0))), ((w 6), .inl (k 0, 768, .inl (fun _ => 0))), ((w 7), .inl (k 0, 768, .inl (fun _ => 0))), ((w 1), .inl (k 6, 8, .inr (.inr (.inr (.inr (fun _ => none)))))), ((w 2), .inl (k 6, 20, .inr (.inr (.inr (.inr (fun _ => none)))))), ((w 4), .inl (k 6, 6, .inr (.inr (.inr (.inr (fun _ => none)))))), (mo, .inr (13, [.int 0, .ref (w 0), .int 0, .ref (w 1), .int 0, .int 0, .ref (w 2), .int 0, .ref (w 3), .ref (w 4), .int 0]))] H := hP
      have hD : va_D A [((w 0), .inl (k 5, 3, .inr (.inr (.inr (.inr (fun i => some (w (5 + i)))))))), ((w 5), .inl (k 0, 768, .inl (fun _ => 0))), ((w 6), .inl (k 0, 768, .inl (fun _ => 0))), ((w 7), .inl (k 0, 768, .inl (fun _ => 0))), ((w 1), .inl (k 6, 8, .inr (.inr (.inr (.inr (fun _ => none)))))), ((w 2), .inl (k 6, 20, .inr (.inr (.inr (.inr (fun _ => none)))))), ((w 4), .inl (k 6, 6, .inr (.inr (.inr (.inr (fun _ => none)))))), (mo, .inr (13, [.int 0, .ref (w 0), .int 0, .ref (w 1), .int 0, .int 0, .ref (w 2), .int 0, .ref (w 3), .ref (w 4), .int 0]))] := hD
      have e_r7 : r7 = 0 := hw_r7.trans (by decide)
      subst e_r7
      refine lv_if_eq (tgt := 33) hx hb dX12_remove_28 (by decide) (fun c_28 => ?_) (fun c_28 => absurd (by decide) c_28)
      refine lv_iload_n hx hb dX12_remove_33 rfl (lv_at hl 2 rfl) ?_
      refine lv_iload_n hx hb dX12_remove_34 rfl (lv_at hl 3 rfl) ?_
      refine lv_iload hx hb dX12_remove_35 (lv_at hl 4 rfl) ?_
      refine pz_i (va_runS (As := [.int x, .int y, .int z]) (rest := []) ⟨hx, hb, hml, hown, hts⟩ (k_X12_cell l D k H x y z) (va_cwS 3 hts gX12_remove_X12_cell rfl rfl rfl (by decide +kernel) ⟨Nat.le_of_ble_eq_true rfl, Nat.le_of_ble_eq_true rfl⟩) ⟨pPc_fb, pPc_go hC⟩ rfl rfl hl.1 rfl (lv_room (Nat.le_of_ble_eq_true rfl)) dX12_remove_37 ⟨Nat.le_of_ble_eq_true rfl, Nat.le_of_ble_eq_true rfl⟩) hS (fun r9 locs hw_r9 hS => ?_)
      obtain ⟨i, hi, e9⟩ := i32_cell f_17.1 f_17.2.1 f_17.2.2
      rw [← hw_r9] at e9
      subst e9
      refine lv_istore (lv' := [(5, .int (nI i)), (0, .ref mo), (1, .int g), (2, .int x), (3, .int y), (4, .int z)]) hx hb dX12_remove_40 hl (by decide) rfl (fun ls hl => ?_)
      have hg : (0 ≤ g.toInt ∧ g.toInt < 3) := by omega
      obtain ⟨j, hj, rfl⟩ := nI_bd (n := 3) hg.1 hg.2 (by decide)
      have hP := hP.sub (ws' := [(mo, .inr (13, [.int 0, .ref (w 0), .int 0, .ref (w 1), .int 0, .int 0, .ref (w 2), .int 0, .ref (w 3), .ref (w 4), .int 0])), ((w 0), .inl (k 5, 3, .inr (.inr (.inr (.inr (fun i => some (w (5 + i)))))))), ((w 5), .inl (k 0, 768, .inl (fun _ => 0))), ((w 6), .inl (k 0, 768, .inl (fun _ => 0))), ((w 7), .inl (k 0, 768, .inl (fun _ => 0))), ((w 1), .inl (k 6, 8, .inr (.inr (.inr (.inr (fun _ => none)))))), ((w 2), .inl (k 6, 20, .inr (.inr (.inr (.inr (fun _ => none)))))), ((w 4), .inl (k 6, 6, .inr (.inr (.inr (.inr (fun _ => none))))))]) [7, 0, 1, 2, 3, 4, 5, 6] rfl
      have hD := hD.sub (ws' := [(mo, .inr (13, [.int 0, .ref (w 0), .int 0, .ref (w 1), .int 0, .int 0, .ref (w 2), .int 0, .ref (w 3), .ref (w 4), .int 0])), ((w 0), .inl (k 5, 3, .inr (.inr (.inr (.inr (fun i => some (w (5 + i)))))))), ((w 5), .inl (k 0, 768, .inl (fun _ => 0))), ((w 6), .inl (k 0, 768, .inl (fun _ => 0))), ((w 7), .inl (k 0, 768, .inl (fun _ => 0))), ((w 1), .inl (k 6, 8, .inr (.inr (.inr (.inr (fun _ => none)))))), ((w 2), .inl (k 6, 20, .inr (.inr (.inr (.inr (fun _ => none)))))), ((w 4), .inl (k 6, 6, .inr (.inr (.inr (.inr (fun _ => none))))))]) [7, 0, 1, 2, 3, 4, 5, 6] (by decide) rfl
      have hP : va_P D vwCl [(mo, .inr (13, [.int 0, .ref (w 0), .int 0, .ref (w 1), .int 0, .int 0, .ref (w 2), .int 0, .ref (w 3), .ref (w 4), .int 0])), ((w 0), .inl (k 5, 3, .inr (.inr (.inr (.inr (fun i => some (w (5 + i)))))))), ((w (5 + j)), .inl (k 0, 768, .inl (fun _ => 0)))] H := wM_j hP hj
      have hD : va_D A [(mo, .inr (13, [.int 0, .ref (w 0), .int 0, .ref (w 1), .int 0, .int 0, .ref (w 2), .int 0, .ref (w 3), .ref (w 4), .int 0])), ((w 0), .inl (k 5, 3, .inr (.inr (.inr (.inr (fun i => some (w (5 + i)))))))), ((w (5 + j)), .inl (k 0, 768, .inl (fun _ => 0)))] := wM_jD hD hj
      refine lv_aload_n hx hb dX12_remove_42 rfl (lv_at hl 1 rfl) ?_
      refine va_get (D := D) (ci := 13) (v := .ref (w 0)) (C := RX12) (T := TX12) (N := 11) hx hb hts (by decide +kernel) hown hC.1 hP 0 rfl rfl 1 (by decide) (hts (.fieldLink RX12 11 "TriplegarthModel" "there" "[[Z") (by decide +kernel)) (fun _ h9 => h9) rfl dX12_remove_43 ?_
      refine lv_iload_n hx hb dX12_remove_46 rfl (lv_at hl 2 rfl) ?_
      refine w_aldA hx hb hC.1 hP 1 5 rfl rfl (vp_in_nI (show j < 3 by omega) (by decide)) dX12_remove_47 ?_
      refine w_topr (y := .ref (w (5 + j))) (by rw [nI_clamp (show j < 2 ^ 31 by omega)]; rfl) ?_
      refine lv_iload hx hb dX12_remove_48 (lv_at hl 0 rfl) ?_
      refine va_zald hx hb hC.1 hP 2 0 rfl rfl (vp_in_nI (show i < 768 by omega) (by decide)) dX12_remove_50 ?_
      refine w_top (y := 0) rfl ?_
      refine lv_istore (lv' := [(6, .int 0), (5, .int (nI i)), (0, .ref mo), (1, .int (nI j)), (2, .int x), (3, .int y), (4, .int z)]) hx hb dX12_remove_51 hl (by decide) rfl (fun ls hl => ?_)
      refine lv_aload_n hx hb dX12_remove_53 rfl (lv_at hl 2 rfl) ?_
      refine va_get (D := D) (ci := 13) (v := .ref (w 0)) (C := RX12) (T := TX12) (N := 11) hx hb hts (by decide +kernel) hown hC.1 hP 0 rfl rfl 1 (by decide) (hts (.fieldLink RX12 11 "TriplegarthModel" "there" "[[Z") (by decide +kernel)) (fun _ h9 => h9) rfl dX12_remove_54 ?_
      refine lv_iload_n hx hb dX12_remove_57 rfl (lv_at hl 3 rfl) ?_
      refine w_aldA hx hb hC.1 hP 1 5 rfl rfl (vp_in_nI (show j < 3 by omega) (by decide)) dX12_remove_58 ?_
      refine w_topr (y := .ref (w (5 + j))) (by rw [nI_clamp (show j < 2 ^ 31 by omega)]; rfl) ?_
      refine lv_iload hx hb dX12_remove_59 (lv_at hl 1 rfl) ?_
      refine lv_iconst (v := 0) hx hb dX12_remove_61 (by decide) ?_
      refine va_zast hx hb hC.1 hP hD hS 2 0 rfl rfl (vp_in_nI (show i < 768 by omega) (by decide)) dX12_remove_62 (fun H locs hP hD hS => ?_)
      have hP : va_P D vwCl [(mo, .inr (13, [.int 0, .ref (w 0), .int 0, .ref (w 1), .int 0, .int 0, .ref (w 2), .int 0, .ref (w 3), .ref (w 4), .int 0])), ((w 0), .inl (k 5, 3, .inr (.inr (.inr (.inr (fun i => some (w (5 + i)))))))), ((w (5 + j)), .inl (k 0, 768, .inl (upd (fun _ => 0) (nI i).toNatClampNeg (vp_nar .boolean 0))))] H := hP
      have hD : va_D A [(mo, .inr (13, [.int 0, .ref (w 0), .int 0, .ref (w 1), .int 0, .int 0, .ref (w 2), .int 0, .ref (w 3), .ref (w 4), .int 0])), ((w 0), .inl (k 5, 3, .inr (.inr (.inr (.inr (fun i => some (w (5 + i)))))))), ((w (5 + j)), .inl (k 0, 768, .inl (upd (fun _ => 0) (nI i).toNatClampNeg (vp_nar .boolean 0))))] := hD
      refine lv_aload_n hx hb dX12_remove_63 rfl (lv_at hl 2 rfl) ?_
      refine lv_dup hx hb dX12_remove_64 rfl ?_
      refine va_get (D := D) (ci := 13) (v := .int 0) (C := RX12) (T := TX12) (N := 11) hx hb hts (by decide +kernel) hown hC.1 hP 0 rfl rfl 2 (by decide) (hts (.fieldLink RX12 51 "TriplegarthModel" "many" "I") (by decide +kernel)) (fun _ h9 => h9) rfl dX12_remove_65 ?_
      refine lv_iload hx hb dX12_remove_68 (lv_at hl 0 rfl) ?_
      refine lv_if_eq (tgt := 77) hx hb dX12_remove_70 (by decide) (fun c_70 => ?_) (fun c_70 => absurd (by decide) c_70)
      refine lv_iconst (v := 0) hx hb dX12_remove_77 (by decide) ?_
      refine lv_isub hx hb dX12_remove_78 ?_
      refine w_top (y := 0) (by decide) ?_
      refine va_put (D := D) (ci := 13) (v := .int 0) (ty := .int) (C := RX12) (T := TX12) (N := 11) hx hb hts (by decide +kernel) tyX12 tyX12_ok nmX12 hown hC.1 hP hD hS 0 rfl rfl 2 (by decide) (hts (.fieldLink RX12 51 "TriplegarthModel" "many" "I") (by decide +kernel)) (fun _ h9 => h9) rfl (by decide +kernel) rfl rfl (Nat.le_of_ble_eq_true rfl) dX12_remove_79 (fun H locs hP hD hS => ?_)
      have hP : va_P D vwCl [(mo, .inr (13, [.int 0, .ref (w 0), .int 0, .ref (w 1), .int 0, .int 0, .ref (w 2), .int 0, .ref (w 3), .ref (w 4), .int 0])), ((w 0), .inl (k 5, 3, .inr (.inr (.inr (.inr (fun i => some (w (5 + i)))))))), ((w (5 + j)), .inl (k 0, 768, .inl (upd (fun _ => 0) (nI i).toNatClampNeg (vp_nar .boolean 0))))] H := hP
      have hD : va_D A [(mo, .inr (13, [.int 0, .ref (w 0), .int 0, .ref (w 1), .int 0, .int 0, .ref (w 2), .int 0, .ref (w 3), .ref (w 4), .int 0])), ((w 0), .inl (k 5, 3, .inr (.inr (.inr (.inr (fun i => some (w (5 + i)))))))), ((w (5 + j)), .inl (k 0, 768, .inl (upd (fun _ => 0) (nI i).toNatClampNeg (vp_nar .boolean 0))))] := hD
      refine lv_iload hx hb dX12_remove_82 (lv_at hl 0 rfl) ?_
      exact W.zret (v := 0) (ty := .boolean) hx hb hr (rfl) (fun t ht hW => ⟨⟨0, [.int 0, .ref (w 0), .int 0, .ref (w 1), .int 0, .int 0, .ref (w 2), .int 0, .ref (w 3), .ref (w 4), .int 0], rfl, Or.inl ⟨⟨hg, f_17⟩, rfl, rfl⟩, ⟨by rw [ht]; exact hP.sub [0] rfl, hD.sub [0] (by decide) rfl⟩⟩, hS.F ht⟩) hS.2.2 dX12_remove_84
    · have f_17 := bi_z hw_r5 c_17
      refine lv_iconst (v := 1) hx hb dX12_remove_20 (by decide) ?_
      refine lv_goto (tgt := 25) hx hb dX12_remove_21 (by decide) ?_
      have hPc := hP.sub (ws' := [(mo, .inr (13, [.int 0, .ref (w 0), .int 0, .ref (w 1), .int 0, .int 0, .ref (w 2), .int 0, .ref (w 3), .ref (w 4), .int 0]))]) [0] rfl
      have hDc := hD.sub (ws' := [(mo, .inr (13, [.int 0, .ref (w 0), .int 0, .ref (w 1), .int 0, .int 0, .ref (w 2), .int 0, .ref (w 3), .ref (w 4), .int 0]))]) [0] (by decide) rfl
      have hFc := va_free (wc := [(mo, .inr (13, [.int 0, .ref (w 0), .int 0, .ref (w 1), .int 0, .int 0, .ref (w 2), .int 0, .ref (w 3), .ref (w 4), .int 0]))]) hD hS hA [0] rfl
      refine va_calli (va_runV (As := [.int 1]) (rest := []) ⟨hx, hb, hml, hown, hts⟩ (k_X12_fails l D k e0 s.heap.size mo w 0 1) (cwV 1 hts gX12_remove_X12_fails rfl rfl rfl (by decide +kernel) ⟨Nat.le_of_ble_eq_true rfl, Nat.le_of_ble_eq_true rfl⟩) ⟨mPc_fb, va_recv hC.1 hPc (ci := 13) (q0 := 0) rfl rfl, mPc_go hC hHf hS hPc hDc hFc⟩ rfl rfl hl.1 rfl (lv_room (Nat.le_of_ble_eq_true rfl)) dX12_remove_25 ⟨Nat.le_of_ble_eq_true rfl, Nat.le_of_ble_eq_true rfl⟩) hS (fun q9 _ h9 => hFc q9 h9) hFc (fun r11 u10 t H locs ht hvm hw_r11 hB hz1 hk1 hS => ?_)
      obtain ⟨hP1, hD1⟩ := hB
      rw [ht] at hP1
      obtain ⟨hP, hD⟩ := va_join (wr := [((w 0), .inl (k 5, 3, .inr (.inr (.inr (.inr (fun i => some (w (5 + i)))))))), ((w 5), .inl (k 0, 768, .inl (fun _ => 0))), ((w 6), .inl (k 0, 768, .inl (fun _ => 0))), ((w 7), .inl (k 0, 768, .inl (fun _ => 0))), ((w 1), .inl (k 6, 8, .inr (.inr (.inr (.inr (fun _ => none)))))), ((w 2), .inl (k 6, 20, .inr (.inr (.inr (.inr (fun _ => none)))))), ((w 4), .inl (k 6, 6, .inr (.inr (.inr (.inr (fun _ => none))))))]) (w1 := [(mo, .inr (13, [.int 1, .ref (w 0), .int 0, .ref (w 1), .int 0, .int 0, .ref (w 2), .int 0, .ref (w 3), .ref (w 4), .int 0]))]) hP hD [0] [1, 2, 3, 4, 5, 6, 7] rfl rfl (by decide) (by decide) hk1 hFc hP1 hD1
      have hP : va_P D vwCl [((w 0), .inl (k 5, 3, .inr (.inr (.inr (.inr (fun i => some (w (5 + i)))))))), ((w 5), .inl (k 0, 768, .inl (fun _ => 0))), ((w 6), .inl (k 0, 768, .inl (fun _ => 0))), ((w 7), .inl (k 0, 768, .inl (fun _ => 0))), ((w 1), .inl (k 6, 8, .inr (.inr (.inr (.inr (fun _ => none)))))), ((w 2), .inl (k 6, 20, .inr (.inr (.inr (.inr (fun _ => none)))))), ((w 4), .inl (k 6, 6, .inr (.inr (.inr (.inr (fun _ => none)))))), (mo, .inr (13, [.int 1, .ref (w 0), .int 0, .ref (w 1), .int 0, .int 0, .ref (w 2), .int 0, .ref (w 3), .ref (w 4), .int 0]))] H := hP
      have hD : va_D A [((w 0), .inl (k 5, 3, .inr (.inr (.inr (.inr (fun i => some (w (5 + i)))))))), ((w 5), .inl (k 0, 768, .inl (fun _ => 0))), ((w 6), .inl (k 0, 768, .inl (fun _ => 0))), ((w 7), .inl (k 0, 768, .inl (fun _ => 0))), ((w 1), .inl (k 6, 8, .inr (.inr (.inr (.inr (fun _ => none)))))), ((w 2), .inl (k 6, 20, .inr (.inr (.inr (.inr (fun _ => none)))))), ((w 4), .inl (k 6, 6, .inr (.inr (.inr (.inr (fun _ => none)))))), (mo, .inr (13, [.int 1, .ref (w 0), .int 0, .ref (w 1), .int 0, .int 0, .ref (w 2), .int 0, .ref (w 3), .ref (w 4), .int 0]))] := hD
      have e_r11 : r11 = 1 := hw_r11.trans (by decide)
      subst e_r11
      refine lv_if_eq (tgt := 33) hx hb dX12_remove_28 (by decide) (fun c_28 => absurd c_28 (by decide)) (fun c_28 => ?_)
      refine lv_iconst (v := 0) hx hb dX12_remove_31 (by decide) ?_
      exact W.zret (v := 0) (ty := .boolean) hx hb hr (rfl) (fun t ht hW => ⟨⟨0, [.int 1, .ref (w 0), .int 0, .ref (w 1), .int 0, .int 0, .ref (w 2), .int 0, .ref (w 3), .ref (w 4), .int 0], rfl, Or.inr ⟨by omega, rfl⟩, ⟨by rw [ht]; exact hP.sub [7] rfl, hD.sub [7] (by decide) rfl⟩⟩, hS.F ht⟩) hS.2.2 dX12_remove_32

set_option maxHeartbeats 4000000 in
set_option maxRecDepth 100000 in
theorem k_X12_size (l : Launch) (D : va_G) (k : Nat → ClassId) (e0 : Nat) (sz : Nat) (mo : Nat) (w : Nat → Nat) (g : Int32) : Met l yX12_size wsX12_size ({ frames := 2, cells := 0, slots := 0, locals := 45 }) (mPc D k e0 sz [.ref mo, .int g] [(mo, .inr (13, [.int 0, .ref (w 0), .int 0, .ref (w 1), .int 0, .int 0, .ref (w 2), .int 0, .ref (w 3), .ref (w 4), .int 0])), ((w 0), .inl (k 5, 3, .inr (.inr (.inr (.inr (fun i => some (w (5 + i)))))))), ((w 5), .inl (k 0, 768, .inl (fun _ => 0))), ((w 6), .inl (k 0, 768, .inl (fun _ => 0))), ((w 7), .inl (k 0, 768, .inl (fun _ => 0))), ((w 1), .inl (k 6, 8, .inr (.inr (.inr (.inr (fun _ => none)))))), ((w 2), .inl (k 6, 20, .inr (.inr (.inr (.inr (fun _ => none)))))), ((w 4), .inl (k 6, 6, .inr (.inr (.inr (.inr (fun _ => none))))))]) (va_Qi (fun r (u : List Value) => ((0 ≤ g.toInt ∧ g.toInt < 4) ∧ u[0]? = some (.int 0) ∧ r = 0) ∨ (¬ (0 ≤ g.toInt ∧ g.toInt < 4) ∧ u[0]? = some (.int 1))) (fun u t => va_P D vwCl [(mo, .inr (13, u))] t.heap ∧ va_D (va_A [(mo, .inr (13, [.int 0, .ref (w 0), .int 0, .ref (w 1), .int 0, .int 0, .ref (w 2), .int 0, .ref (w 3), .ref (w 4), .int 0])), ((w 0), .inl (k 5, 3, .inr (.inr (.inr (.inr (fun i => some (w (5 + i)))))))), ((w 5), .inl (k 0, 768, .inl (fun _ => 0))), ((w 6), .inl (k 0, 768, .inl (fun _ => 0))), ((w 7), .inl (k 0, 768, .inl (fun _ => 0))), ((w 1), .inl (k 6, 8, .inr (.inr (.inr (.inr (fun _ => none)))))), ((w 2), .inl (k 6, 20, .inr (.inr (.inr (.inr (fun _ => none)))))), ((w 4), .inl (k 6, 6, .inr (.inr (.inr (.inr (fun _ => none))))))] sz) [(mo, .inr (13, u))]) (va_A [(mo, .inr (13, [.int 0, .ref (w 0), .int 0, .ref (w 1), .int 0, .int 0, .ref (w 2), .int 0, .ref (w 3), .ref (w 4), .int 0])), ((w 0), .inl (k 5, 3, .inr (.inr (.inr (.inr (fun i => some (w (5 + i)))))))), ((w 5), .inl (k 0, 768, .inl (fun _ => 0))), ((w 6), .inl (k 0, 768, .inl (fun _ => 0))), ((w 7), .inl (k 0, 768, .inl (fun _ => 0))), ((w 1), .inl (k 6, 8, .inr (.inr (.inr (.inr (fun _ => none)))))), ((w 2), .inl (k 6, 20, .inr (.inr (.inr (.inr (fun _ => none)))))), ((w 4), .inl (k 6, 6, .inr (.inr (.inr (.inr (fun _ => none))))))] sz)) 0 0 (va_A [(mo, .inr (13, [.int 0, .ref (w 0), .int 0, .ref (w 1), .int 0, .int 0, .ref (w 2), .int 0, .ref (w 3), .ref (w 4), .int 0])), ((w 0), .inl (k 5, 3, .inr (.inr (.inr (.inr (fun i => some (w (5 + i)))))))), ((w 5), .inl (k 0, 768, .inl (fun _ => 0))), ((w 6), .inl (k 0, 768, .inl (fun _ => 0))), ((w 7), .inl (k 0, 768, .inl (fun _ => 0))), ((w 1), .inl (k 6, 8, .inr (.inr (.inr (.inr (fun _ => none)))))), ((w 2), .inl (k 6, 20, .inr (.inr (.inr (.inr (fun _ => none)))))), ((w 4), .inl (k 6, 6, .inr (.inr (.inr (.inr (fun _ => none))))))] sz) := by
  refine Met.ofW (cc := cX12_size) (maxL := 2) (ret := (some .int)) (by decide) rfl ?_
  intro p e s m args below meth c s₁ B hml hv
  obtain ⟨rfl, rfl, hP, hC, hD0, hHf⟩ := hv
  have hx := B.exec
  have hb := B.bytes
  have hr := B.returns
  have hts := atoms_spec (ws := wsX12_size) B.pre
  have hown : s.vm.findClass RX12 = some m.cls := findClass_of_methodNamed B.named
  have hlocks := B.notSynchronized
  have hD := hD0.self (sz := s.heap.size)
  generalize hAe : va_A [(mo, .inr (13, [.int 0, .ref (w 0), .int 0, .ref (w 1), .int 0, .int 0, .ref (w 2), .int 0, .ref (w 3), .ref (w 4), .int 0])), ((w 0), .inl (k 5, 3, .inr (.inr (.inr (.inr (fun i => some (w (5 + i)))))))), ((w 5), .inl (k 0, 768, .inl (fun _ => 0))), ((w 6), .inl (k 0, 768, .inl (fun _ => 0))), ((w 7), .inl (k 0, 768, .inl (fun _ => 0))), ((w 1), .inl (k 6, 8, .inr (.inr (.inr (.inr (fun _ => none)))))), ((w 2), .inl (k 6, 20, .inr (.inr (.inr (.inr (fun _ => none)))))), ((w 4), .inl (k 6, 6, .inr (.inr (.inr (.inr (fun _ => none))))))] s.heap.size = A at hD hHf ⊢
  have hA : ∀ q : Nat, s.heap.size ≤ q → A q := fun q h => by rw [← hAe]; exact Or.inr h
  have hS : va_S A s.heap s.heap [] := va_S.rf
  refine w_entry (Nat.le_of_ble_eq_true rfl) (fun ls hl => ?_)
  have hl : lv_has ls 2 [(0, .ref mo), (1, .int g)] := hl
  refine lv_aload_n hx hb dX12_size_0 rfl (lv_at hl 0 rfl) ?_
  refine lv_iload_n hx hb dX12_size_1 rfl (lv_at hl 1 rfl) ?_
  refine lv_iconst (v := 0) hx hb dX12_size_2 (by decide) ?_
  refine lv_iconst (v := 3) hx hb dX12_size_3 (by decide) ?_
  refine pz_i (va_runS (As := [.int g, .int 0, .int 3]) (rest := [.ref mo]) ⟨hx, hb, hml, hown, hts⟩ (k_X12_in l D k s.heap g 0 3) (va_cwS 3 hts gX12_size_X12_in rfl rfl rfl (by decide +kernel) ⟨Nat.le_of_ble_eq_true rfl, Nat.le_of_ble_eq_true rfl⟩) ⟨pPc_fb, pPc_go hC⟩ rfl rfl hl.1 rfl (lv_room (Nat.le_of_ble_eq_true rfl)) dX12_size_4 ⟨Nat.le_of_ble_eq_true rfl, Nat.le_of_ble_eq_true rfl⟩) hS (fun r1 locs hw_r1 hS => ?_)
  have hw_r1 : r1 = bi (0 ≤ g.toInt ∧ g.toInt ≤ 3) := hw_r1
  refine lv_if_eq (tgt := 14) hx hb dX12_size_7 (by decide) (fun c_7 => ?_) (fun c_7 => ?_)
  · have f_7 := bi_z hw_r1 c_7
    refine lv_iconst (v := 1) hx hb dX12_size_14 (by decide) ?_
    have hPc := hP.sub (ws' := [(mo, .inr (13, [.int 0, .ref (w 0), .int 0, .ref (w 1), .int 0, .int 0, .ref (w 2), .int 0, .ref (w 3), .ref (w 4), .int 0]))]) [0] rfl
    have hDc := hD.sub (ws' := [(mo, .inr (13, [.int 0, .ref (w 0), .int 0, .ref (w 1), .int 0, .int 0, .ref (w 2), .int 0, .ref (w 3), .ref (w 4), .int 0]))]) [0] (by decide) rfl
    have hFc := va_free (wc := [(mo, .inr (13, [.int 0, .ref (w 0), .int 0, .ref (w 1), .int 0, .int 0, .ref (w 2), .int 0, .ref (w 3), .ref (w 4), .int 0]))]) hD hS hA [0] rfl
    refine va_calli (va_runV (As := [.int 1]) (rest := []) ⟨hx, hb, hml, hown, hts⟩ (k_X12_fails l D k e0 s.heap.size mo w 0 1) (cwV 1 hts gX12_size_X12_fails rfl rfl rfl (by decide +kernel) ⟨Nat.le_of_ble_eq_true rfl, Nat.le_of_ble_eq_true rfl⟩) ⟨mPc_fb, va_recv hC.1 hPc (ci := 13) (q0 := 0) rfl rfl, mPc_go hC hHf hS hPc hDc hFc⟩ rfl rfl hl.1 rfl (lv_room (Nat.le_of_ble_eq_true rfl)) dX12_size_15 ⟨Nat.le_of_ble_eq_true rfl, Nat.le_of_ble_eq_true rfl⟩) hS (fun q9 _ h9 => hFc q9 h9) hFc (fun r3 u2 t H locs ht hvm hw_r3 hB hz1 hk1 hS => ?_)
    obtain ⟨hP1, hD1⟩ := hB
    rw [ht] at hP1
    obtain ⟨hP, hD⟩ := va_join (wr := [((w 0), .inl (k 5, 3, .inr (.inr (.inr (.inr (fun i => some (w (5 + i)))))))), ((w 5), .inl (k 0, 768, .inl (fun _ => 0))), ((w 6), .inl (k 0, 768, .inl (fun _ => 0))), ((w 7), .inl (k 0, 768, .inl (fun _ => 0))), ((w 1), .inl (k 6, 8, .inr (.inr (.inr (.inr (fun _ => none)))))), ((w 2), .inl (k 6, 20, .inr (.inr (.inr (.inr (fun _ => none)))))), ((w 4), .inl (k 6, 6, .inr (.inr (.inr (.inr (fun _ => none))))))]) (w1 := [(mo, .inr (13, [.int 1, .ref (w 0), .int 0, .ref (w 1), .int 0, .int 0, .ref (w 2), .int 0, .ref (w 3), .ref (w 4), .int 0]))]) hP hD [0] [1, 2, 3, 4, 5, 6, 7] rfl rfl (by decide) (by decide) hk1 hFc hP1 hD1
    have hP : va_P D vwCl [((w 0), .inl (k 5, 3, .inr (.inr (.inr (.inr (fun i => some (w (5 + i)))))))), ((w 5), .inl (k 0, 768, .inl (fun _ => 0))), ((w 6), .inl (k 0, 768, .inl (fun _ => 0))), ((w 7), .inl (k 0, 768, .inl (fun _ => 0))), ((w 1), .inl (k 6, 8, .inr (.inr (.inr (.inr (fun _ => none)))))), ((w 2), .inl (k 6, 20, .inr (.inr (.inr (.inr (fun _ => none)))))), ((w 4), .inl (k 6, 6, .inr (.inr (.inr (.inr (fun _ => none)))))), (mo, .inr (13, [.int 1, .ref (w 0), .int 0, .ref (w 1), .int 0, .int 0, .ref (w 2), .int 0, .ref (w 3), .ref (w 4), .int 0]))] H := hP
    have hD : va_D A [((w 0), .inl (k 5, 3, .inr (.inr (.inr (.inr (fun i => some (w (5 + i)))))))), ((w 5), .inl (k 0, 768, .inl (fun _ => 0))), ((w 6), .inl (k 0, 768, .inl (fun _ => 0))), ((w 7), .inl (k 0, 768, .inl (fun _ => 0))), ((w 1), .inl (k 6, 8, .inr (.inr (.inr (.inr (fun _ => none)))))), ((w 2), .inl (k 6, 20, .inr (.inr (.inr (.inr (fun _ => none)))))), ((w 4), .inl (k 6, 6, .inr (.inr (.inr (.inr (fun _ => none)))))), (mo, .inr (13, [.int 1, .ref (w 0), .int 0, .ref (w 1), .int 0, .int 0, .ref (w 2), .int 0, .ref (w 3), .ref (w 4), .int 0]))] := hD
    have e_r3 : r3 = 1 := hw_r3.trans (by decide)
    subst e_r3
    refine lv_if_eq (tgt := 25) hx hb dX12_size_18 (by decide) (fun c_18 => absurd c_18 (by decide)) (fun c_18 => ?_)
    refine lv_iconst (v := 0) hx hb dX12_size_21 (by decide) ?_
    refine lv_goto (tgt := 30) hx hb dX12_size_22 (by decide) ?_
    exact W.iret (v := 0) hx hb hr (fun t ht hW => ⟨⟨0, [.int 1, .ref (w 0), .int 0, .ref (w 1), .int 0, .int 0, .ref (w 2), .int 0, .ref (w 3), .ref (w 4), .int 0], rfl, Or.inr ⟨by omega, rfl⟩, ⟨by rw [ht]; exact hP.sub [7] rfl, hD.sub [7] (by decide) rfl⟩⟩, hS.F ht⟩) hS.2.2 dX12_size_30
  · have f_7 := bi_n hw_r1 c_7
    refine lv_iconst (v := 0) hx hb dX12_size_10 (by decide) ?_
    refine lv_goto (tgt := 15) hx hb dX12_size_11 (by decide) ?_
    have hPc := hP.sub (ws' := [(mo, .inr (13, [.int 0, .ref (w 0), .int 0, .ref (w 1), .int 0, .int 0, .ref (w 2), .int 0, .ref (w 3), .ref (w 4), .int 0]))]) [0] rfl
    have hDc := hD.sub (ws' := [(mo, .inr (13, [.int 0, .ref (w 0), .int 0, .ref (w 1), .int 0, .int 0, .ref (w 2), .int 0, .ref (w 3), .ref (w 4), .int 0]))]) [0] (by decide) rfl
    have hFc := va_free (wc := [(mo, .inr (13, [.int 0, .ref (w 0), .int 0, .ref (w 1), .int 0, .int 0, .ref (w 2), .int 0, .ref (w 3), .ref (w 4), .int 0]))]) hD hS hA [0] rfl
    refine va_calli (va_runV (As := [.int 0]) (rest := []) ⟨hx, hb, hml, hown, hts⟩ (k_X12_fails l D k e0 s.heap.size mo w 0 0) (cwV 1 hts gX12_size_X12_fails rfl rfl rfl (by decide +kernel) ⟨Nat.le_of_ble_eq_true rfl, Nat.le_of_ble_eq_true rfl⟩) ⟨mPc_fb, va_recv hC.1 hPc (ci := 13) (q0 := 0) rfl rfl, mPc_go hC hHf hS hPc hDc hFc⟩ rfl rfl hl.1 rfl (lv_room (Nat.le_of_ble_eq_true rfl)) dX12_size_15 ⟨Nat.le_of_ble_eq_true rfl, Nat.le_of_ble_eq_true rfl⟩) hS (fun q9 _ h9 => hFc q9 h9) hFc (fun r6 u5 t H locs ht hvm hw_r6 hB hz1 hk1 hS => ?_)
    obtain ⟨hP1, hD1⟩ := hB
    rw [ht] at hP1
    obtain ⟨hP, hD⟩ := va_join (wr := [((w 0), .inl (k 5, 3, .inr (.inr (.inr (.inr (fun i => some (w (5 + i)))))))), ((w 5), .inl (k 0, 768, .inl (fun _ => 0))), ((w 6), .inl (k 0, 768, .inl (fun _ => 0))), ((w 7), .inl (k 0, 768, .inl (fun _ => 0))), ((w 1), .inl (k 6, 8, .inr (.inr (.inr (.inr (fun _ => none)))))), ((w 2), .inl (k 6, 20, .inr (.inr (.inr (.inr (fun _ => none)))))), ((w 4), .inl (k 6, 6, .inr (.inr (.inr (.inr (fun _ => none))))))]) (w1 := [(mo, .inr (13, [.int 0, .ref (w 0), .int 0, .ref (w 1), .int 0, .int 0, .ref (w 2), .int 0, .ref (w 3), .ref (w 4), .int 0]))]) hP hD [0] [1, 2, 3, 4, 5, 6, 7] rfl rfl (by decide) (by decide) hk1 hFc hP1 hD1
    have hP : va_P D vwCl [((w 0), .inl (k 5, 3, .inr (.inr (.inr (.inr (fun i => some (w (5 + i)))))))), ((w 5), .inl (k 0, 768, .inl (fun _ => 0))), ((w 6), .inl (k 0, 768, .inl (fun _ => 0))), ((w 7), .inl (k 0, 768, .inl (fun _ => 0))), ((w 1), .inl (k 6, 8, .inr (.inr (.inr (.inr (fun _ => none)))))), ((w 2), .inl (k 6, 20, .inr (.inr (.inr (.inr (fun _ => none)))))), ((w 4), .inl (k 6, 6, .inr (.inr (.inr (.inr (fun _ => none)))))), (mo, .inr (13, [.int 0, .ref (w 0), .int 0, .ref (w 1), .int 0, .int 0, .ref (w 2), .int 0, .ref (w 3), .ref (w 4), .int 0]))] H := hP
    have hD : va_D A [((w 0), .inl (k 5, 3, .inr (.inr (.inr (.inr (fun i => some (w (5 + i)))))))), ((w 5), .inl (k 0, 768, .inl (fun _ => 0))), ((w 6), .inl (k 0, 768, .inl (fun _ => 0))), ((w 7), .inl (k 0, 768, .inl (fun _ => 0))), ((w 1), .inl (k 6, 8, .inr (.inr (.inr (.inr (fun _ => none)))))), ((w 2), .inl (k 6, 20, .inr (.inr (.inr (.inr (fun _ => none)))))), ((w 4), .inl (k 6, 6, .inr (.inr (.inr (.inr (fun _ => none)))))), (mo, .inr (13, [.int 0, .ref (w 0), .int 0, .ref (w 1), .int 0, .int 0, .ref (w 2), .int 0, .ref (w 3), .ref (w 4), .int 0]))] := hD
    have e_r6 : r6 = 0 := hw_r6.trans (by decide)
    subst e_r6
    refine lv_if_eq (tgt := 25) hx hb dX12_size_18 (by decide) (fun c_18 => ?_) (fun c_18 => absurd (by decide) c_18)
    have hg : (0 ≤ g.toInt ∧ g.toInt < 4) := by omega
    obtain ⟨j, hj, rfl⟩ := nI_bd (n := 4) hg.1 hg.2 (by decide)
    refine lv_aload_n hx hb dX12_size_25 rfl (lv_at hl 0 rfl) ?_
    refine lv_iload_n hx hb dX12_size_26 rfl (lv_at hl 1 rfl) ?_
    refine pz_i (va_runV (As := [.int (nI j)]) (rest := []) ⟨hx, hb, hml, hown, hts⟩ (k_X12_count l D k H mo w j (hP.sub [7, 0, 1, 2, 3, 4, 5, 6] rfl) hj) (cwV 1 hts gX12_size_X12_count rfl rfl rfl (by decide +kernel) ⟨Nat.le_of_ble_eq_true rfl, Nat.le_of_ble_eq_true rfl⟩) ⟨pPc_fb, va_recv hC.1 hP (ci := 13) (q0 := 7) rfl rfl, pPc_go hC⟩ rfl rfl hl.1 rfl (lv_room (Nat.le_of_ble_eq_true rfl)) dX12_size_27 ⟨Nat.le_of_ble_eq_true rfl, Nat.le_of_ble_eq_true rfl⟩) hS (fun r8 locs hw_r8 hS => ?_)
    subst hw_r8
    exact W.iret (v := 0) hx hb hr (fun t ht hW => ⟨⟨0, [.int 0, .ref (w 0), .int 0, .ref (w 1), .int 0, .int 0, .ref (w 2), .int 0, .ref (w 3), .ref (w 4), .int 0], rfl, Or.inl ⟨hg, rfl, rfl⟩, ⟨by rw [ht]; exact hP.sub [7] rfl, hD.sub [7] (by decide) rfl⟩⟩, hS.F ht⟩) hS.2.2 dX12_size_30

set_option maxHeartbeats 4000000 in
set_option maxRecDepth 100000 in
theorem k_X12_entails (l : Launch) (D : va_G) (k : Nat → ClassId) (e0 : Nat) (sz : Nat) (mo : Nat) (w : Nat → Nat) (g x y z : Int32) : Met l yX12_entails wsX12_entails ({ frames := 3, cells := 1, slots := 768, locals := 68 }) (mPc D k e0 sz [.ref mo, .int g, .int x, .int y, .int z] [(mo, .inr (13, [.int 0, .ref (w 0), .int 0, .ref (w 1), .int 0, .int 0, .ref (w 2), .int 0, .ref (w 3), .ref (w 4), .int 0])), ((w 0), .inl (k 5, 3, .inr (.inr (.inr (.inr (fun i => some (w (5 + i)))))))), ((w 5), .inl (k 0, 768, .inl (fun _ => 0))), ((w 6), .inl (k 0, 768, .inl (fun _ => 0))), ((w 7), .inl (k 0, 768, .inl (fun _ => 0))), ((w 1), .inl (k 6, 8, .inr (.inr (.inr (.inr (fun _ => none)))))), ((w 2), .inl (k 6, 20, .inr (.inr (.inr (.inr (fun _ => none)))))), ((w 4), .inl (k 6, 6, .inr (.inr (.inr (.inr (fun _ => none))))))]) (va_Qi (fun r (u : List Value) => (((0 ≤ g.toInt ∧ g.toInt < 4) ∧ ((0 ≤ x.toInt ∧ x.toInt < 8) ∧ (0 ≤ y.toInt ∧ y.toInt < 8) ∧ (0 ≤ z.toInt ∧ z.toInt < 12))) ∧ u[0]? = some (.int 0) ∧ r = 0) ∨ (¬ ((0 ≤ g.toInt ∧ g.toInt < 4) ∧ ((0 ≤ x.toInt ∧ x.toInt < 8) ∧ (0 ≤ y.toInt ∧ y.toInt < 8) ∧ (0 ≤ z.toInt ∧ z.toInt < 12))) ∧ u[0]? = some (.int 1))) (fun u t => va_P D vwCl [(mo, .inr (13, u))] t.heap ∧ va_D (va_A [(mo, .inr (13, [.int 0, .ref (w 0), .int 0, .ref (w 1), .int 0, .int 0, .ref (w 2), .int 0, .ref (w 3), .ref (w 4), .int 0])), ((w 0), .inl (k 5, 3, .inr (.inr (.inr (.inr (fun i => some (w (5 + i)))))))), ((w 5), .inl (k 0, 768, .inl (fun _ => 0))), ((w 6), .inl (k 0, 768, .inl (fun _ => 0))), ((w 7), .inl (k 0, 768, .inl (fun _ => 0))), ((w 1), .inl (k 6, 8, .inr (.inr (.inr (.inr (fun _ => none)))))), ((w 2), .inl (k 6, 20, .inr (.inr (.inr (.inr (fun _ => none)))))), ((w 4), .inl (k 6, 6, .inr (.inr (.inr (.inr (fun _ => none))))))] sz) [(mo, .inr (13, u))]) (va_A [(mo, .inr (13, [.int 0, .ref (w 0), .int 0, .ref (w 1), .int 0, .int 0, .ref (w 2), .int 0, .ref (w 3), .ref (w 4), .int 0])), ((w 0), .inl (k 5, 3, .inr (.inr (.inr (.inr (fun i => some (w (5 + i)))))))), ((w 5), .inl (k 0, 768, .inl (fun _ => 0))), ((w 6), .inl (k 0, 768, .inl (fun _ => 0))), ((w 7), .inl (k 0, 768, .inl (fun _ => 0))), ((w 1), .inl (k 6, 8, .inr (.inr (.inr (.inr (fun _ => none)))))), ((w 2), .inl (k 6, 20, .inr (.inr (.inr (.inr (fun _ => none)))))), ((w 4), .inl (k 6, 6, .inr (.inr (.inr (.inr (fun _ => none))))))] sz)) 1 768 (va_A [(mo, .inr (13, [.int 0, .ref (w 0), .int 0, .ref (w 1), .int 0, .int 0, .ref (w 2), .int 0, .ref (w 3), .ref (w 4), .int 0])), ((w 0), .inl (k 5, 3, .inr (.inr (.inr (.inr (fun i => some (w (5 + i)))))))), ((w 5), .inl (k 0, 768, .inl (fun _ => 0))), ((w 6), .inl (k 0, 768, .inl (fun _ => 0))), ((w 7), .inl (k 0, 768, .inl (fun _ => 0))), ((w 1), .inl (k 6, 8, .inr (.inr (.inr (.inr (fun _ => none)))))), ((w 2), .inl (k 6, 20, .inr (.inr (.inr (.inr (fun _ => none)))))), ((w 4), .inl (k 6, 6, .inr (.inr (.inr (.inr (fun _ => none))))))] sz) := by
  refine Met.ofW (cc := cX12_entails) (maxL := 5) (ret := (some .boolean)) (by decide) rfl ?_
  intro p e s m args below meth c s₁ B hml hv
  obtain ⟨rfl, rfl, hP, hC, hD0, hHf⟩ := hv
  have hx := B.exec
  have hb := B.bytes
  have hr := B.returns
  have hts := atoms_spec (ws := wsX12_entails) B.pre
  have hown : s.vm.findClass RX12 = some m.cls := findClass_of_methodNamed B.named
  have hlocks := B.notSynchronized
  have hD := hD0.self (sz := s.heap.size)
  generalize hAe : va_A [(mo, .inr (13, [.int 0, .ref (w 0), .int 0, .ref (w 1), .int 0, .int 0, .ref (w 2), .int 0, .ref (w 3), .ref (w 4), .int 0])), ((w 0), .inl (k 5, 3, .inr (.inr (.inr (.inr (fun i => some (w (5 + i)))))))), ((w 5), .inl (k 0, 768, .inl (fun _ => 0))), ((w 6), .inl (k 0, 768, .inl (fun _ => 0))), ((w 7), .inl (k 0, 768, .inl (fun _ => 0))), ((w 1), .inl (k 6, 8, .inr (.inr (.inr (.inr (fun _ => none)))))), ((w 2), .inl (k 6, 20, .inr (.inr (.inr (.inr (fun _ => none)))))), ((w 4), .inl (k 6, 6, .inr (.inr (.inr (.inr (fun _ => none))))))] s.heap.size = A at hD hHf ⊢
  have hA : ∀ q : Nat, s.heap.size ≤ q → A q := fun q h => by rw [← hAe]; exact Or.inr h
  have hS : va_S A s.heap s.heap [] := va_S.rf
  refine w_entry (Nat.le_of_ble_eq_true rfl) (fun ls hl => ?_)
  have hl : lv_has ls 5 [(0, .ref mo), (1, .int g), (2, .int x), (3, .int y), (4, .int z)] := hl
  refine lv_aload_n hx hb dX12_entails_0 rfl (lv_at hl 0 rfl) ?_
  refine lv_iload_n hx hb dX12_entails_1 rfl (lv_at hl 1 rfl) ?_
  refine lv_iload_n hx hb dX12_entails_2 rfl (lv_at hl 2 rfl) ?_
  refine lv_iload_n hx hb dX12_entails_3 rfl (lv_at hl 3 rfl) ?_
  refine lv_iload hx hb dX12_entails_4 (lv_at hl 4 rfl) ?_
  have hPc := hP.sub (ws' := [(mo, .inr (13, [.int 0, .ref (w 0), .int 0, .ref (w 1), .int 0, .int 0, .ref (w 2), .int 0, .ref (w 3), .ref (w 4), .int 0]))]) [0] rfl
  have hDc := hD.sub (ws' := [(mo, .inr (13, [.int 0, .ref (w 0), .int 0, .ref (w 1), .int 0, .int 0, .ref (w 2), .int 0, .ref (w 3), .ref (w 4), .int 0]))]) [0] (by decide) rfl
  have hFc := va_free (wc := [(mo, .inr (13, [.int 0, .ref (w 0), .int 0, .ref (w 1), .int 0, .int 0, .ref (w 2), .int 0, .ref (w 3), .ref (w 4), .int 0]))]) hD hS hA [0] rfl
  refine va_calli (va_runV (As := [.int g, .int x, .int y, .int z]) (rest := []) ⟨hx, hb, hml, hown, hts⟩ (k_X12_failsTriple l D k e0 s.heap.size mo w g x y z) (cwV 4 hts gX12_entails_X12_failsTriple rfl rfl rfl (by decide +kernel) ⟨Nat.le_of_ble_eq_true rfl, Nat.le_of_ble_eq_true rfl⟩) ⟨mPc_fb, va_recv hC.1 hPc (ci := 13) (q0 := 0) rfl rfl, mPc_go hC hHf hS hPc hDc hFc⟩ rfl rfl hl.1 rfl (lv_room (Nat.le_of_ble_eq_true rfl)) dX12_entails_6 ⟨Nat.le_of_ble_eq_true rfl, Nat.le_of_ble_eq_true rfl⟩) hS (fun q9 _ h9 => hFc q9 h9) hFc (fun r2 u1 t H locs ht hvm hw_r2 hB hz1 hk1 hS => ?_)
  obtain ⟨hP1, hD1⟩ := hB
  rw [ht] at hP1
  obtain ⟨hP, hD⟩ := va_join (wr := [((w 0), .inl (k 5, 3, .inr (.inr (.inr (.inr (fun i => some (w (5 + i)))))))), ((w 5), .inl (k 0, 768, .inl (fun _ => 0))), ((w 6), .inl (k 0, 768, .inl (fun _ => 0))), ((w 7), .inl (k 0, 768, .inl (fun _ => 0))), ((w 1), .inl (k 6, 8, .inr (.inr (.inr (.inr (fun _ => none)))))), ((w 2), .inl (k 6, 20, .inr (.inr (.inr (.inr (fun _ => none)))))), ((w 4), .inl (k 6, 6, .inr (.inr (.inr (.inr (fun _ => none))))))]) (w1 := [(mo, .inr (13, [.int u1, .ref (w 0), .int 0, .ref (w 1), .int 0, .int 0, .ref (w 2), .int 0, .ref (w 3), .ref (w 4), .int 0]))]) hP hD [0] [1, 2, 3, 4, 5, 6, 7] rfl rfl (by decide) (by decide) hk1 hFc hP1 hD1
  have hP : va_P D vwCl [((w 0), .inl (k 5, 3, .inr (.inr (.inr (.inr (fun i => some (w (5 + i)))))))), ((w 5), .inl (k 0, 768, .inl (fun _ => 0))), ((w 6), .inl (k 0, 768, .inl (fun _ => 0))), ((w 7), .inl (k 0, 768, .inl (fun _ => 0))), ((w 1), .inl (k 6, 8, .inr (.inr (.inr (.inr (fun _ => none)))))), ((w 2), .inl (k 6, 20, .inr (.inr (.inr (.inr (fun _ => none)))))), ((w 4), .inl (k 6, 6, .inr (.inr (.inr (.inr (fun _ => none)))))), (mo, .inr (13, [.int u1, .ref (w 0), .int 0, .ref (w 1), .int 0, .int 0, .ref (w 2), .int 0, .ref (w 3), .ref (w 4), .int 0]))] H := hP
  have hD : va_D A [((w 0), .inl (k 5, 3, .inr (.inr (.inr (.inr (fun i => some (w (5 + i)))))))), ((w 5), .inl (k 0, 768, .inl (fun _ => 0))), ((w 6), .inl (k 0, 768, .inl (fun _ => 0))), ((w 7), .inl (k 0, 768, .inl (fun _ => 0))), ((w 1), .inl (k 6, 8, .inr (.inr (.inr (.inr (fun _ => none)))))), ((w 2), .inl (k 6, 20, .inr (.inr (.inr (.inr (fun _ => none)))))), ((w 4), .inl (k 6, 6, .inr (.inr (.inr (.inr (fun _ => none)))))), (mo, .inr (13, [.int u1, .ref (w 0), .int 0, .ref (w 1), .int 0, .int 0, .ref (w 2), .int 0, .ref (w 3), .ref (w 4), .int 0]))] := hD
  rcases hw_r2 with ⟨hat, rfl, rfl⟩ | ⟨hat, rfl, rfl⟩
  · have hP : va_P D vwCl [((w 0), .inl (k 5, 3, .inr (.inr (.inr (.inr (fun i => some (w (5 + i)))))))), ((w 5), .inl (k 0, 768, .inl (fun _ => 0))), ((w 6), .inl (k 0, 768, .inl (fun _ => 0))), ((w 7), .inl (k 0, 768, .inl (fun _ => 0))), ((w 1), .inl (k 6, 8, .inr (.inr (.inr (.inr (fun _ => none)))))), ((w 2), .inl (k 6, 20, .inr (.inr (.inr (.inr (fun _ => none)))))), ((w 4), .inl (k 6, 6, .inr (.inr (.inr (.inr (fun _ => none)))))), (mo, .inr (13, [.int 0, .ref (w 0), .int 0, .ref (w 1), .int 0, .int 0, .ref (w 2), .int 0, .ref (w 3), .ref (w 4), .int 0]))] H := hP
    have hD : va_D A [((w 0), .inl (k 5, 3, .inr (.inr (.inr (.inr (fun i => some (w (5 + i)))))))), ((w 5), .inl (k 0, 768, .inl (fun _ => 0))), ((w 6), .inl (k 0, 768, .inl (fun _ => 0))), ((w 7), .inl (k 0, 768, .inl (fun _ => 0))), ((w 1), .inl (k 6, 8, .inr (.inr (.inr (.inr (fun _ => none)))))), ((w 2), .inl (k 6, 20, .inr (.inr (.inr (.inr (fun _ => none)))))), ((w 4), .inl (k 6, 6, .inr (.inr (.inr (.inr (fun _ => none)))))), (mo, .inr (13, [.int 0, .ref (w 0), .int 0, .ref (w 1), .int 0, .int 0, .ref (w 2), .int 0, .ref (w 3), .ref (w 4), .int 0]))] := hD
    have hat2 := hat.2
    have hg : (0 ≤ g.toInt ∧ g.toInt < 4) := hat.1
    obtain ⟨j, hj, rfl⟩ := nI_bd (n := 4) hg.1 hg.2 (by decide)
    refine lv_if_ne (tgt := 32) hx hb dX12_entails_9 (by decide) (fun c_9 => absurd c_9 (by decide)) (fun c_9 => ?_)
    refine lv_aload_n hx hb dX12_entails_12 rfl (lv_at hl 0 rfl) ?_
    refine lv_iload_n hx hb dX12_entails_13 rfl (lv_at hl 1 rfl) ?_
    have hPc := hP.sub (ws' := [(mo, .inr (13, [.int 0, .ref (w 0), .int 0, .ref (w 1), .int 0, .int 0, .ref (w 2), .int 0, .ref (w 3), .ref (w 4), .int 0])), ((w 0), .inl (k 5, 3, .inr (.inr (.inr (.inr (fun i => some (w (5 + i)))))))), ((w 5), .inl (k 0, 768, .inl (fun _ => 0))), ((w 6), .inl (k 0, 768, .inl (fun _ => 0))), ((w 7), .inl (k 0, 768, .inl (fun _ => 0))), ((w 1), .inl (k 6, 8, .inr (.inr (.inr (.inr (fun _ => none)))))), ((w 2), .inl (k 6, 20, .inr (.inr (.inr (.inr (fun _ => none)))))), ((w 4), .inl (k 6, 6, .inr (.inr (.inr (.inr (fun _ => none))))))]) [7, 0, 1, 2, 3, 4, 5, 6] rfl
    have hDc := hD.sub (ws' := [(mo, .inr (13, [.int 0, .ref (w 0), .int 0, .ref (w 1), .int 0, .int 0, .ref (w 2), .int 0, .ref (w 3), .ref (w 4), .int 0])), ((w 0), .inl (k 5, 3, .inr (.inr (.inr (.inr (fun i => some (w (5 + i)))))))), ((w 5), .inl (k 0, 768, .inl (fun _ => 0))), ((w 6), .inl (k 0, 768, .inl (fun _ => 0))), ((w 7), .inl (k 0, 768, .inl (fun _ => 0))), ((w 1), .inl (k 6, 8, .inr (.inr (.inr (.inr (fun _ => none)))))), ((w 2), .inl (k 6, 20, .inr (.inr (.inr (.inr (fun _ => none)))))), ((w 4), .inl (k 6, 6, .inr (.inr (.inr (.inr (fun _ => none))))))]) [7, 0, 1, 2, 3, 4, 5, 6] (by decide) rfl
    have hFc := va_free (wc := [(mo, .inr (13, [.int 0, .ref (w 0), .int 0, .ref (w 1), .int 0, .int 0, .ref (w 2), .int 0, .ref (w 3), .ref (w 4), .int 0])), ((w 0), .inl (k 5, 3, .inr (.inr (.inr (.inr (fun i => some (w (5 + i)))))))), ((w 5), .inl (k 0, 768, .inl (fun _ => 0))), ((w 6), .inl (k 0, 768, .inl (fun _ => 0))), ((w 7), .inl (k 0, 768, .inl (fun _ => 0))), ((w 1), .inl (k 6, 8, .inr (.inr (.inr (.inr (fun _ => none)))))), ((w 2), .inl (k 6, 20, .inr (.inr (.inr (.inr (fun _ => none)))))), ((w 4), .inl (k 6, 6, .inr (.inr (.inr (.inr (fun _ => none))))))]) hD hS hA [7, 0, 1, 2, 3, 4, 5, 6] rfl
    refine va_callr (va_runV (As := [.int (nI j)]) (rest := []) ⟨hx, hb, hml, hown, hts⟩ (k_X12_proofs l D k e0 H.size mo w j hj) (cwV 1 hts gX12_entails_X12_proofs rfl rfl rfl (by decide +kernel) ⟨Nat.le_of_ble_eq_true rfl, Nat.le_of_ble_eq_true rfl⟩) ⟨mPc_fb, va_recv hC.1 hPc (ci := 13) (q0 := 0) rfl rfl, mPc_go hC hHf hS hPc hDc hFc⟩ rfl rfl hl.1 rfl (lv_room (Nat.le_of_ble_eq_true rfl)) dX12_entails_14 ⟨Nat.le_of_ble_eq_true rfl, Nat.le_of_ble_eq_true rfl⟩) hS (fun q9 _ h9 => hFc q9 h9) hFc (fun u4 q6 t H locs ht hvm hw_r5 hB hz1 hk1 hS => ?_)
    obtain ⟨hP1, hD1⟩ := hB
    rw [ht] at hP1
    obtain ⟨hP, hD⟩ := va_join (wr := []) (w1 := [(mo, .inr (13, [.int 0, .ref (w 0), .int 0, .ref (w 1), .int 0, .int 0, .ref (w 2), .int 0, .ref (w 3), .ref (w 4), .int 0])), (q6, .inl (k 2, 768, .inl (fun _ => 0)))]) hP hD [7, 0, 1, 2, 3, 4, 5, 6] [] rfl rfl (by decide) (by decide) hk1 hFc hP1 hD1
    have hP : va_P D vwCl [(mo, .inr (13, [.int 0, .ref (w 0), .int 0, .ref (w 1), .int 0, .int 0, .ref (w 2), .int 0, .ref (w 3), .ref (w 4), .int 0])), (q6, .inl (k 2, 768, .inl (fun _ => 0)))] H := hP
    have hD : va_D A [(mo, .inr (13, [.int 0, .ref (w 0), .int 0, .ref (w 1), .int 0, .int 0, .ref (w 2), .int 0, .ref (w 3), .ref (w 4), .int 0])), (q6, .inl (k 2, 768, .inl (fun _ => 0)))] := hD
    refine lv_iload_n hx hb dX12_entails_17 rfl (lv_at hl 2 rfl) ?_
    refine lv_iload_n hx hb dX12_entails_18 rfl (lv_at hl 3 rfl) ?_
    refine lv_iload hx hb dX12_entails_19 (lv_at hl 4 rfl) ?_
    refine pz_i (va_runS (As := [.int x, .int y, .int z]) (rest := [.ref q6]) ⟨hx, hb, hml, hown, hts⟩ (k_X12_cell l D k H x y z) (va_cwS 3 hts gX12_entails_X12_cell rfl rfl rfl (by decide +kernel) ⟨Nat.le_of_ble_eq_true rfl, Nat.le_of_ble_eq_true rfl⟩) ⟨pPc_fb, pPc_go hC⟩ rfl rfl hl.1 rfl (lv_room (Nat.le_of_ble_eq_true rfl)) dX12_entails_21 ⟨Nat.le_of_ble_eq_true rfl, Nat.le_of_ble_eq_true rfl⟩) hS (fun r7 locs hw_r7 hS => ?_)
    obtain ⟨i, hi, e9⟩ := i32_cell hat2.1 hat2.2.1 hat2.2.2
    rw [← hw_r7] at e9
    subst e9
    refine va_iald hx hb hC.1 hP 1 2 rfl rfl (vp_in_nI (show i < 768 by omega) (by decide)) dX12_entails_24 ?_
    refine w_top (y := 0) rfl ?_
    refine lv_if_le (tgt := 32) hx hb dX12_entails_25 (by decide) (fun c_25 => ?_) (fun c_25 => absurd (by decide) c_25)
    refine lv_iconst (v := 0) hx hb dX12_entails_32 (by decide) ?_
    exact W.zret (v := 0) (ty := .boolean) hx hb hr (rfl) (fun t ht hW => ⟨⟨0, [.int 0, .ref (w 0), .int 0, .ref (w 1), .int 0, .int 0, .ref (w 2), .int 0, .ref (w 3), .ref (w 4), .int 0], rfl, Or.inl ⟨⟨hg, hat2⟩, rfl, rfl⟩, ⟨by rw [ht]; exact hP.sub [0] rfl, hD.sub [0] (by decide) rfl⟩⟩, hS.F ht⟩) hS.2.2 dX12_entails_33
  · have hP : va_P D vwCl [((w 0), .inl (k 5, 3, .inr (.inr (.inr (.inr (fun i => some (w (5 + i)))))))), ((w 5), .inl (k 0, 768, .inl (fun _ => 0))), ((w 6), .inl (k 0, 768, .inl (fun _ => 0))), ((w 7), .inl (k 0, 768, .inl (fun _ => 0))), ((w 1), .inl (k 6, 8, .inr (.inr (.inr (.inr (fun _ => none)))))), ((w 2), .inl (k 6, 20, .inr (.inr (.inr (.inr (fun _ => none)))))), ((w 4), .inl (k 6, 6, .inr (.inr (.inr (.inr (fun _ => none)))))), (mo, .inr (13, [.int 1, .ref (w 0), .int 0, .ref (w 1), .int 0, .int 0, .ref (w 2), .int 0, .ref (w 3), .ref (w 4), .int 0]))] H := hP
    have hD : va_D A [((w 0), .inl (k 5, 3, .inr (.inr (.inr (.inr (fun i => some (w (5 + i)))))))), ((w 5), .inl (k 0, 768, .inl (fun _ => 0))), ((w 6), .inl (k 0, 768, .inl (fun _ => 0))), ((w 7), .inl (k 0, 768, .inl (fun _ => 0))), ((w 1), .inl (k 6, 8, .inr (.inr (.inr (.inr (fun _ => none)))))), ((w 2), .inl (k 6, 20, .inr (.inr (.inr (.inr (fun _ => none)))))), ((w 4), .inl (k 6, 6, .inr (.inr (.inr (.inr (fun _ => none)))))), (mo, .inr (13, [.int 1, .ref (w 0), .int 0, .ref (w 1), .int 0, .int 0, .ref (w 2), .int 0, .ref (w 3), .ref (w 4), .int 0]))] := hD
    refine lv_if_ne (tgt := 32) hx hb dX12_entails_9 (by decide) (fun c_9 => ?_) (fun c_9 => absurd c_9 (by decide))
    refine lv_iconst (v := 0) hx hb dX12_entails_32 (by decide) ?_
    refine W.widen (k := 1) (n := 768) (Nat.le_of_ble_eq_true rfl) (Nat.le_of_ble_eq_true rfl) ?_
    exact W.zret (v := 0) (ty := .boolean) hx hb hr (rfl) (fun t ht hW => ⟨⟨0, [.int 1, .ref (w 0), .int 0, .ref (w 1), .int 0, .int 0, .ref (w 2), .int 0, .ref (w 3), .ref (w 4), .int 0], rfl, Or.inr ⟨hat, rfl⟩, ⟨by rw [ht]; exact hP.sub [7] rfl, hD.sub [7] (by decide) rfl⟩⟩, hS.F ht⟩) hS.2.2 dX12_entails_33

set_option maxHeartbeats 4000000 in
set_option maxRecDepth 100000 in
theorem k_X12_leastProof (l : Launch) (D : va_G) (k : Nat → ClassId) (e0 : Nat) (sz : Nat) (mo : Nat) (w : Nat → Nat) (g x y z : Int32) : Met l yX12_leastProof wsX12_leastProof ({ frames := 3, cells := 1, slots := 768, locals := 68 }) (mPc D k e0 sz [.ref mo, .int g, .int x, .int y, .int z] [(mo, .inr (13, [.int 0, .ref (w 0), .int 0, .ref (w 1), .int 0, .int 0, .ref (w 2), .int 0, .ref (w 3), .ref (w 4), .int 0])), ((w 0), .inl (k 5, 3, .inr (.inr (.inr (.inr (fun i => some (w (5 + i)))))))), ((w 5), .inl (k 0, 768, .inl (fun _ => 0))), ((w 6), .inl (k 0, 768, .inl (fun _ => 0))), ((w 7), .inl (k 0, 768, .inl (fun _ => 0))), ((w 1), .inl (k 6, 8, .inr (.inr (.inr (.inr (fun _ => none)))))), ((w 2), .inl (k 6, 20, .inr (.inr (.inr (.inr (fun _ => none)))))), ((w 4), .inl (k 6, 6, .inr (.inr (.inr (.inr (fun _ => none))))))]) (va_Qi (fun r (u : List Value) => (((0 ≤ g.toInt ∧ g.toInt < 4) ∧ ((0 ≤ x.toInt ∧ x.toInt < 8) ∧ (0 ≤ y.toInt ∧ y.toInt < 8) ∧ (0 ≤ z.toInt ∧ z.toInt < 12))) ∧ u[0]? = some (.int 2)) ∨ (¬ ((0 ≤ g.toInt ∧ g.toInt < 4) ∧ ((0 ≤ x.toInt ∧ x.toInt < 8) ∧ (0 ≤ y.toInt ∧ y.toInt < 8) ∧ (0 ≤ z.toInt ∧ z.toInt < 12))) ∧ u[0]? = some (.int 1))) (fun u t => va_P D vwCl [(mo, .inr (13, u))] t.heap ∧ va_D (va_A [(mo, .inr (13, [.int 0, .ref (w 0), .int 0, .ref (w 1), .int 0, .int 0, .ref (w 2), .int 0, .ref (w 3), .ref (w 4), .int 0])), ((w 0), .inl (k 5, 3, .inr (.inr (.inr (.inr (fun i => some (w (5 + i)))))))), ((w 5), .inl (k 0, 768, .inl (fun _ => 0))), ((w 6), .inl (k 0, 768, .inl (fun _ => 0))), ((w 7), .inl (k 0, 768, .inl (fun _ => 0))), ((w 1), .inl (k 6, 8, .inr (.inr (.inr (.inr (fun _ => none)))))), ((w 2), .inl (k 6, 20, .inr (.inr (.inr (.inr (fun _ => none)))))), ((w 4), .inl (k 6, 6, .inr (.inr (.inr (.inr (fun _ => none))))))] sz) [(mo, .inr (13, u))]) (va_A [(mo, .inr (13, [.int 0, .ref (w 0), .int 0, .ref (w 1), .int 0, .int 0, .ref (w 2), .int 0, .ref (w 3), .ref (w 4), .int 0])), ((w 0), .inl (k 5, 3, .inr (.inr (.inr (.inr (fun i => some (w (5 + i)))))))), ((w 5), .inl (k 0, 768, .inl (fun _ => 0))), ((w 6), .inl (k 0, 768, .inl (fun _ => 0))), ((w 7), .inl (k 0, 768, .inl (fun _ => 0))), ((w 1), .inl (k 6, 8, .inr (.inr (.inr (.inr (fun _ => none)))))), ((w 2), .inl (k 6, 20, .inr (.inr (.inr (.inr (fun _ => none)))))), ((w 4), .inl (k 6, 6, .inr (.inr (.inr (.inr (fun _ => none))))))] sz)) 1 768 (va_A [(mo, .inr (13, [.int 0, .ref (w 0), .int 0, .ref (w 1), .int 0, .int 0, .ref (w 2), .int 0, .ref (w 3), .ref (w 4), .int 0])), ((w 0), .inl (k 5, 3, .inr (.inr (.inr (.inr (fun i => some (w (5 + i)))))))), ((w 5), .inl (k 0, 768, .inl (fun _ => 0))), ((w 6), .inl (k 0, 768, .inl (fun _ => 0))), ((w 7), .inl (k 0, 768, .inl (fun _ => 0))), ((w 1), .inl (k 6, 8, .inr (.inr (.inr (.inr (fun _ => none)))))), ((w 2), .inl (k 6, 20, .inr (.inr (.inr (.inr (fun _ => none)))))), ((w 4), .inl (k 6, 6, .inr (.inr (.inr (.inr (fun _ => none))))))] sz) := by
  refine Met.ofW (cc := cX12_leastProof) (maxL := 6) (ret := (some .int)) (by decide) rfl ?_
  intro p e s m args below meth c s₁ B hml hv
  obtain ⟨rfl, rfl, hP, hC, hD0, hHf⟩ := hv
  have hx := B.exec
  have hb := B.bytes
  have hr := B.returns
  have hts := atoms_spec (ws := wsX12_leastProof) B.pre
  have hown : s.vm.findClass RX12 = some m.cls := findClass_of_methodNamed B.named
  have hlocks := B.notSynchronized
  have hD := hD0.self (sz := s.heap.size)
  generalize hAe : va_A [(mo, .inr (13, [.int 0, .ref (w 0), .int 0, .ref (w 1), .int 0, .int 0, .ref (w 2), .int 0, .ref (w 3), .ref (w 4), .int 0])), ((w 0), .inl (k 5, 3, .inr (.inr (.inr (.inr (fun i => some (w (5 + i)))))))), ((w 5), .inl (k 0, 768, .inl (fun _ => 0))), ((w 6), .inl (k 0, 768, .inl (fun _ => 0))), ((w 7), .inl (k 0, 768, .inl (fun _ => 0))), ((w 1), .inl (k 6, 8, .inr (.inr (.inr (.inr (fun _ => none)))))), ((w 2), .inl (k 6, 20, .inr (.inr (.inr (.inr (fun _ => none)))))), ((w 4), .inl (k 6, 6, .inr (.inr (.inr (.inr (fun _ => none))))))] s.heap.size = A at hD hHf ⊢
  have hA : ∀ q : Nat, s.heap.size ≤ q → A q := fun q h => by rw [← hAe]; exact Or.inr h
  have hS : va_S A s.heap s.heap [] := va_S.rf
  refine w_entry (Nat.le_of_ble_eq_true rfl) (fun ls hl => ?_)
  have hl : lv_has ls 6 [(0, .ref mo), (1, .int g), (2, .int x), (3, .int y), (4, .int z)] := hl
  refine lv_aload_n hx hb dX12_leastProof_0 rfl (lv_at hl 0 rfl) ?_
  refine lv_iload_n hx hb dX12_leastProof_1 rfl (lv_at hl 1 rfl) ?_
  refine lv_iload_n hx hb dX12_leastProof_2 rfl (lv_at hl 2 rfl) ?_
  refine lv_iload_n hx hb dX12_leastProof_3 rfl (lv_at hl 3 rfl) ?_
  refine lv_iload hx hb dX12_leastProof_4 (lv_at hl 4 rfl) ?_
  have hPc := hP.sub (ws' := [(mo, .inr (13, [.int 0, .ref (w 0), .int 0, .ref (w 1), .int 0, .int 0, .ref (w 2), .int 0, .ref (w 3), .ref (w 4), .int 0]))]) [0] rfl
  have hDc := hD.sub (ws' := [(mo, .inr (13, [.int 0, .ref (w 0), .int 0, .ref (w 1), .int 0, .int 0, .ref (w 2), .int 0, .ref (w 3), .ref (w 4), .int 0]))]) [0] (by decide) rfl
  have hFc := va_free (wc := [(mo, .inr (13, [.int 0, .ref (w 0), .int 0, .ref (w 1), .int 0, .int 0, .ref (w 2), .int 0, .ref (w 3), .ref (w 4), .int 0]))]) hD hS hA [0] rfl
  refine va_calli (va_runV (As := [.int g, .int x, .int y, .int z]) (rest := []) ⟨hx, hb, hml, hown, hts⟩ (k_X12_failsTriple l D k e0 s.heap.size mo w g x y z) (cwV 4 hts gX12_leastProof_X12_failsTriple rfl rfl rfl (by decide +kernel) ⟨Nat.le_of_ble_eq_true rfl, Nat.le_of_ble_eq_true rfl⟩) ⟨mPc_fb, va_recv hC.1 hPc (ci := 13) (q0 := 0) rfl rfl, mPc_go hC hHf hS hPc hDc hFc⟩ rfl rfl hl.1 rfl (lv_room (Nat.le_of_ble_eq_true rfl)) dX12_leastProof_6 ⟨Nat.le_of_ble_eq_true rfl, Nat.le_of_ble_eq_true rfl⟩) hS (fun q9 _ h9 => hFc q9 h9) hFc (fun r2 u1 t H locs ht hvm hw_r2 hB hz1 hk1 hS => ?_)
  obtain ⟨hP1, hD1⟩ := hB
  rw [ht] at hP1
  obtain ⟨hP, hD⟩ := va_join (wr := [((w 0), .inl (k 5, 3, .inr (.inr (.inr (.inr (fun i => some (w (5 + i)))))))), ((w 5), .inl (k 0, 768, .inl (fun _ => 0))), ((w 6), .inl (k 0, 768, .inl (fun _ => 0))), ((w 7), .inl (k 0, 768, .inl (fun _ => 0))), ((w 1), .inl (k 6, 8, .inr (.inr (.inr (.inr (fun _ => none)))))), ((w 2), .inl (k 6, 20, .inr (.inr (.inr (.inr (fun _ => none)))))), ((w 4), .inl (k 6, 6, .inr (.inr (.inr (.inr (fun _ => none))))))]) (w1 := [(mo, .inr (13, [.int u1, .ref (w 0), .int 0, .ref (w 1), .int 0, .int 0, .ref (w 2), .int 0, .ref (w 3), .ref (w 4), .int 0]))]) hP hD [0] [1, 2, 3, 4, 5, 6, 7] rfl rfl (by decide) (by decide) hk1 hFc hP1 hD1
  have hP : va_P D vwCl [((w 0), .inl (k 5, 3, .inr (.inr (.inr (.inr (fun i => some (w (5 + i)))))))), ((w 5), .inl (k 0, 768, .inl (fun _ => 0))), ((w 6), .inl (k 0, 768, .inl (fun _ => 0))), ((w 7), .inl (k 0, 768, .inl (fun _ => 0))), ((w 1), .inl (k 6, 8, .inr (.inr (.inr (.inr (fun _ => none)))))), ((w 2), .inl (k 6, 20, .inr (.inr (.inr (.inr (fun _ => none)))))), ((w 4), .inl (k 6, 6, .inr (.inr (.inr (.inr (fun _ => none)))))), (mo, .inr (13, [.int u1, .ref (w 0), .int 0, .ref (w 1), .int 0, .int 0, .ref (w 2), .int 0, .ref (w 3), .ref (w 4), .int 0]))] H := hP
  have hD : va_D A [((w 0), .inl (k 5, 3, .inr (.inr (.inr (.inr (fun i => some (w (5 + i)))))))), ((w 5), .inl (k 0, 768, .inl (fun _ => 0))), ((w 6), .inl (k 0, 768, .inl (fun _ => 0))), ((w 7), .inl (k 0, 768, .inl (fun _ => 0))), ((w 1), .inl (k 6, 8, .inr (.inr (.inr (.inr (fun _ => none)))))), ((w 2), .inl (k 6, 20, .inr (.inr (.inr (.inr (fun _ => none)))))), ((w 4), .inl (k 6, 6, .inr (.inr (.inr (.inr (fun _ => none)))))), (mo, .inr (13, [.int u1, .ref (w 0), .int 0, .ref (w 1), .int 0, .int 0, .ref (w 2), .int 0, .ref (w 3), .ref (w 4), .int 0]))] := hD
  rcases hw_r2 with ⟨hat, rfl, rfl⟩ | ⟨hat, rfl, rfl⟩
  · have hP : va_P D vwCl [((w 0), .inl (k 5, 3, .inr (.inr (.inr (.inr (fun i => some (w (5 + i)))))))), ((w 5), .inl (k 0, 768, .inl (fun _ => 0))), ((w 6), .inl (k 0, 768, .inl (fun _ => 0))), ((w 7), .inl (k 0, 768, .inl (fun _ => 0))), ((w 1), .inl (k 6, 8, .inr (.inr (.inr (.inr (fun _ => none)))))), ((w 2), .inl (k 6, 20, .inr (.inr (.inr (.inr (fun _ => none)))))), ((w 4), .inl (k 6, 6, .inr (.inr (.inr (.inr (fun _ => none)))))), (mo, .inr (13, [.int 0, .ref (w 0), .int 0, .ref (w 1), .int 0, .int 0, .ref (w 2), .int 0, .ref (w 3), .ref (w 4), .int 0]))] H := hP
    have hD : va_D A [((w 0), .inl (k 5, 3, .inr (.inr (.inr (.inr (fun i => some (w (5 + i)))))))), ((w 5), .inl (k 0, 768, .inl (fun _ => 0))), ((w 6), .inl (k 0, 768, .inl (fun _ => 0))), ((w 7), .inl (k 0, 768, .inl (fun _ => 0))), ((w 1), .inl (k 6, 8, .inr (.inr (.inr (.inr (fun _ => none)))))), ((w 2), .inl (k 6, 20, .inr (.inr (.inr (.inr (fun _ => none)))))), ((w 4), .inl (k 6, 6, .inr (.inr (.inr (.inr (fun _ => none)))))), (mo, .inr (13, [.int 0, .ref (w 0), .int 0, .ref (w 1), .int 0, .int 0, .ref (w 2), .int 0, .ref (w 3), .ref (w 4), .int 0]))] := hD
    have hat2 := hat.2
    have hg : (0 ≤ g.toInt ∧ g.toInt < 4) := hat.1
    obtain ⟨j, hj, rfl⟩ := nI_bd (n := 4) hg.1 hg.2 (by decide)
    refine lv_if_eq (tgt := 14) hx hb dX12_leastProof_9 (by decide) (fun c_9 => ?_) (fun c_9 => absurd (by decide) c_9)
    refine lv_aload_n hx hb dX12_leastProof_14 rfl (lv_at hl 0 rfl) ?_
    refine lv_iload_n hx hb dX12_leastProof_15 rfl (lv_at hl 1 rfl) ?_
    have hPc := hP.sub (ws' := [(mo, .inr (13, [.int 0, .ref (w 0), .int 0, .ref (w 1), .int 0, .int 0, .ref (w 2), .int 0, .ref (w 3), .ref (w 4), .int 0])), ((w 0), .inl (k 5, 3, .inr (.inr (.inr (.inr (fun i => some (w (5 + i)))))))), ((w 5), .inl (k 0, 768, .inl (fun _ => 0))), ((w 6), .inl (k 0, 768, .inl (fun _ => 0))), ((w 7), .inl (k 0, 768, .inl (fun _ => 0))), ((w 1), .inl (k 6, 8, .inr (.inr (.inr (.inr (fun _ => none)))))), ((w 2), .inl (k 6, 20, .inr (.inr (.inr (.inr (fun _ => none)))))), ((w 4), .inl (k 6, 6, .inr (.inr (.inr (.inr (fun _ => none))))))]) [7, 0, 1, 2, 3, 4, 5, 6] rfl
    have hDc := hD.sub (ws' := [(mo, .inr (13, [.int 0, .ref (w 0), .int 0, .ref (w 1), .int 0, .int 0, .ref (w 2), .int 0, .ref (w 3), .ref (w 4), .int 0])), ((w 0), .inl (k 5, 3, .inr (.inr (.inr (.inr (fun i => some (w (5 + i)))))))), ((w 5), .inl (k 0, 768, .inl (fun _ => 0))), ((w 6), .inl (k 0, 768, .inl (fun _ => 0))), ((w 7), .inl (k 0, 768, .inl (fun _ => 0))), ((w 1), .inl (k 6, 8, .inr (.inr (.inr (.inr (fun _ => none)))))), ((w 2), .inl (k 6, 20, .inr (.inr (.inr (.inr (fun _ => none)))))), ((w 4), .inl (k 6, 6, .inr (.inr (.inr (.inr (fun _ => none))))))]) [7, 0, 1, 2, 3, 4, 5, 6] (by decide) rfl
    have hFc := va_free (wc := [(mo, .inr (13, [.int 0, .ref (w 0), .int 0, .ref (w 1), .int 0, .int 0, .ref (w 2), .int 0, .ref (w 3), .ref (w 4), .int 0])), ((w 0), .inl (k 5, 3, .inr (.inr (.inr (.inr (fun i => some (w (5 + i)))))))), ((w 5), .inl (k 0, 768, .inl (fun _ => 0))), ((w 6), .inl (k 0, 768, .inl (fun _ => 0))), ((w 7), .inl (k 0, 768, .inl (fun _ => 0))), ((w 1), .inl (k 6, 8, .inr (.inr (.inr (.inr (fun _ => none)))))), ((w 2), .inl (k 6, 20, .inr (.inr (.inr (.inr (fun _ => none)))))), ((w 4), .inl (k 6, 6, .inr (.inr (.inr (.inr (fun _ => none))))))]) hD hS hA [7, 0, 1, 2, 3, 4, 5, 6] rfl
    refine va_callr (va_runV (As := [.int (nI j)]) (rest := []) ⟨hx, hb, hml, hown, hts⟩ (k_X12_proofs l D k e0 H.size mo w j hj) (cwV 1 hts gX12_leastProof_X12_proofs rfl rfl rfl (by decide +kernel) ⟨Nat.le_of_ble_eq_true rfl, Nat.le_of_ble_eq_true rfl⟩) ⟨mPc_fb, va_recv hC.1 hPc (ci := 13) (q0 := 0) rfl rfl, mPc_go hC hHf hS hPc hDc hFc⟩ rfl rfl hl.1 rfl (lv_room (Nat.le_of_ble_eq_true rfl)) dX12_leastProof_16 ⟨Nat.le_of_ble_eq_true rfl, Nat.le_of_ble_eq_true rfl⟩) hS (fun q9 _ h9 => hFc q9 h9) hFc (fun u4 q6 t H locs ht hvm hw_r5 hB hz1 hk1 hS => ?_)
    obtain ⟨hP1, hD1⟩ := hB
    rw [ht] at hP1
    obtain ⟨hP, hD⟩ := va_join (wr := []) (w1 := [(mo, .inr (13, [.int 0, .ref (w 0), .int 0, .ref (w 1), .int 0, .int 0, .ref (w 2), .int 0, .ref (w 3), .ref (w 4), .int 0])), (q6, .inl (k 2, 768, .inl (fun _ => 0)))]) hP hD [7, 0, 1, 2, 3, 4, 5, 6] [] rfl rfl (by decide) (by decide) hk1 hFc hP1 hD1
    have hP : va_P D vwCl [(mo, .inr (13, [.int 0, .ref (w 0), .int 0, .ref (w 1), .int 0, .int 0, .ref (w 2), .int 0, .ref (w 3), .ref (w 4), .int 0])), (q6, .inl (k 2, 768, .inl (fun _ => 0)))] H := hP
    have hD : va_D A [(mo, .inr (13, [.int 0, .ref (w 0), .int 0, .ref (w 1), .int 0, .int 0, .ref (w 2), .int 0, .ref (w 3), .ref (w 4), .int 0])), (q6, .inl (k 2, 768, .inl (fun _ => 0)))] := hD
    refine lv_iload_n hx hb dX12_leastProof_19 rfl (lv_at hl 2 rfl) ?_
    refine lv_iload_n hx hb dX12_leastProof_20 rfl (lv_at hl 3 rfl) ?_
    refine lv_iload hx hb dX12_leastProof_21 (lv_at hl 4 rfl) ?_
    refine pz_i (va_runS (As := [.int x, .int y, .int z]) (rest := [.ref q6]) ⟨hx, hb, hml, hown, hts⟩ (k_X12_cell l D k H x y z) (va_cwS 3 hts gX12_leastProof_X12_cell rfl rfl rfl (by decide +kernel) ⟨Nat.le_of_ble_eq_true rfl, Nat.le_of_ble_eq_true rfl⟩) ⟨pPc_fb, pPc_go hC⟩ rfl rfl hl.1 rfl (lv_room (Nat.le_of_ble_eq_true rfl)) dX12_leastProof_23 ⟨Nat.le_of_ble_eq_true rfl, Nat.le_of_ble_eq_true rfl⟩) hS (fun r7 locs hw_r7 hS => ?_)
    obtain ⟨i, hi, e9⟩ := i32_cell hat2.1 hat2.2.1 hat2.2.2
    rw [← hw_r7] at e9
    subst e9
    refine va_iald hx hb hC.1 hP 1 2 rfl rfl (vp_in_nI (show i < 768 by omega) (by decide)) dX12_leastProof_26 ?_
    refine w_top (y := 0) rfl ?_
    refine lv_istore (lv' := [(5, .int 0), (0, .ref mo), (1, .int (nI j)), (2, .int x), (3, .int y), (4, .int z)]) hx hb dX12_leastProof_27 hl (by decide) rfl (fun ls hl => ?_)
    refine lv_aload_n hx hb dX12_leastProof_29 rfl (lv_at hl 1 rfl) ?_
    refine lv_iload hx hb dX12_leastProof_30 (lv_at hl 0 rfl) ?_
    refine lv_if_ne (tgt := 39) hx hb dX12_leastProof_32 (by decide) (fun c_32 => absurd c_32 (by decide)) (fun c_32 => ?_)
    refine lv_iconst (v := 2) hx hb dX12_leastProof_35 (by decide) ?_
    refine lv_goto (tgt := 40) hx hb dX12_leastProof_36 (by decide) ?_
    have hPc := hP.sub (ws' := [(mo, .inr (13, [.int 0, .ref (w 0), .int 0, .ref (w 1), .int 0, .int 0, .ref (w 2), .int 0, .ref (w 3), .ref (w 4), .int 0]))]) [0] rfl
    have hDc := hD.sub (ws' := [(mo, .inr (13, [.int 0, .ref (w 0), .int 0, .ref (w 1), .int 0, .int 0, .ref (w 2), .int 0, .ref (w 3), .ref (w 4), .int 0]))]) [0] (by decide) rfl
    have hFc := va_free (wc := [(mo, .inr (13, [.int 0, .ref (w 0), .int 0, .ref (w 1), .int 0, .int 0, .ref (w 2), .int 0, .ref (w 3), .ref (w 4), .int 0]))]) hD hS hA [0] rfl
    refine va_calli (va_runV (As := [.int 2]) (rest := []) ⟨hx, hb, hml, hown, hts⟩ (k_X12_fails l D k e0 H.size mo w 0 2) (cwV 1 hts gX12_leastProof_X12_fails rfl rfl rfl (by decide +kernel) ⟨Nat.le_of_ble_eq_true rfl, Nat.le_of_ble_eq_true rfl⟩) ⟨mPc_fb, va_recv hC.1 hPc (ci := 13) (q0 := 0) rfl rfl, mPc_go hC hHf hS hPc hDc hFc⟩ rfl rfl hl.1 rfl (lv_room (Nat.le_of_ble_eq_true rfl)) dX12_leastProof_40 ⟨Nat.le_of_ble_eq_true rfl, Nat.le_of_ble_eq_true rfl⟩) hS (fun q9 _ h9 => hFc q9 h9) hFc (fun r9 u8 t H locs ht hvm hw_r9 hB hz1 hk1 hS => ?_)
    obtain ⟨hP1, hD1⟩ := hB
    rw [ht] at hP1
    obtain ⟨hP, hD⟩ := va_join (wr := [(q6, .inl (k 2, 768, .inl (fun _ => 0)))]) (w1 := [(mo, .inr (13, [.int 2, .ref (w 0), .int 0, .ref (w 1), .int 0, .int 0, .ref (w 2), .int 0, .ref (w 3), .ref (w 4), .int 0]))]) hP hD [0] [1] rfl rfl (by decide) (by decide) hk1 hFc hP1 hD1
    have hP : va_P D vwCl [(q6, .inl (k 2, 768, .inl (fun _ => 0))), (mo, .inr (13, [.int 2, .ref (w 0), .int 0, .ref (w 1), .int 0, .int 0, .ref (w 2), .int 0, .ref (w 3), .ref (w 4), .int 0]))] H := hP
    have hD : va_D A [(q6, .inl (k 2, 768, .inl (fun _ => 0))), (mo, .inr (13, [.int 2, .ref (w 0), .int 0, .ref (w 1), .int 0, .int 0, .ref (w 2), .int 0, .ref (w 3), .ref (w 4), .int 0]))] := hD
    have e_r9 : r9 = 1 := hw_r9.trans (by decide)
    subst e_r9
    refine lv_if_eq (tgt := 50) hx hb dX12_leastProof_43 (by decide) (fun c_43 => absurd c_43 (by decide)) (fun c_43 => ?_)
    refine lv_iconst (v := 0) hx hb dX12_leastProof_46 (by decide) ?_
    refine lv_goto (tgt := 52) hx hb dX12_leastProof_47 (by decide) ?_
    exact W.iret (v := 0) hx hb hr (fun t ht hW => ⟨⟨0, [.int 2, .ref (w 0), .int 0, .ref (w 1), .int 0, .int 0, .ref (w 2), .int 0, .ref (w 3), .ref (w 4), .int 0], rfl, Or.inl ⟨⟨hg, hat2⟩, rfl⟩, ⟨by rw [ht]; exact hP.sub [1] rfl, hD.sub [1] (by decide) rfl⟩⟩, hS.F ht⟩) hS.2.2 dX12_leastProof_52
  · have hP : va_P D vwCl [((w 0), .inl (k 5, 3, .inr (.inr (.inr (.inr (fun i => some (w (5 + i)))))))), ((w 5), .inl (k 0, 768, .inl (fun _ => 0))), ((w 6), .inl (k 0, 768, .inl (fun _ => 0))), ((w 7), .inl (k 0, 768, .inl (fun _ => 0))), ((w 1), .inl (k 6, 8, .inr (.inr (.inr (.inr (fun _ => none)))))), ((w 2), .inl (k 6, 20, .inr (.inr (.inr (.inr (fun _ => none)))))), ((w 4), .inl (k 6, 6, .inr (.inr (.inr (.inr (fun _ => none)))))), (mo, .inr (13, [.int 1, .ref (w 0), .int 0, .ref (w 1), .int 0, .int 0, .ref (w 2), .int 0, .ref (w 3), .ref (w 4), .int 0]))] H := hP
    have hD : va_D A [((w 0), .inl (k 5, 3, .inr (.inr (.inr (.inr (fun i => some (w (5 + i)))))))), ((w 5), .inl (k 0, 768, .inl (fun _ => 0))), ((w 6), .inl (k 0, 768, .inl (fun _ => 0))), ((w 7), .inl (k 0, 768, .inl (fun _ => 0))), ((w 1), .inl (k 6, 8, .inr (.inr (.inr (.inr (fun _ => none)))))), ((w 2), .inl (k 6, 20, .inr (.inr (.inr (.inr (fun _ => none)))))), ((w 4), .inl (k 6, 6, .inr (.inr (.inr (.inr (fun _ => none)))))), (mo, .inr (13, [.int 1, .ref (w 0), .int 0, .ref (w 1), .int 0, .int 0, .ref (w 2), .int 0, .ref (w 3), .ref (w 4), .int 0]))] := hD
    refine lv_if_eq (tgt := 14) hx hb dX12_leastProof_9 (by decide) (fun c_9 => absurd c_9 (by decide)) (fun c_9 => ?_)
    refine lv_iconst (v := 0) hx hb dX12_leastProof_12 (by decide) ?_
    refine W.widen (k := 1) (n := 768) (Nat.le_of_ble_eq_true rfl) (Nat.le_of_ble_eq_true rfl) ?_
    exact W.iret (v := 0) hx hb hr (fun t ht hW => ⟨⟨0, [.int 1, .ref (w 0), .int 0, .ref (w 1), .int 0, .int 0, .ref (w 2), .int 0, .ref (w 3), .ref (w 4), .int 0], rfl, Or.inr ⟨hat, rfl⟩, ⟨by rw [ht]; exact hP.sub [7] rfl, hD.sub [7] (by decide) rfl⟩⟩, hS.F ht⟩) hS.2.2 dX12_leastProof_13

set_option maxHeartbeats 4000000 in
set_option maxRecDepth 100000 in
theorem k_X12_entailed (l : Launch) (D : va_G) (k : Nat → ClassId) (e0 : Nat) (sz : Nat) (mo : Nat) (w : Nat → Nat) (g : Int32) : Met l yX12_entailed wsX12_entailed ({ frames := 2, cells := 1, slots := 768, locals := 47 }) (mPc D k e0 sz [.ref mo, .int g] [(mo, .inr (13, [.int 0, .ref (w 0), .int 0, .ref (w 1), .int 0, .int 0, .ref (w 2), .int 0, .ref (w 3), .ref (w 4), .int 0])), ((w 0), .inl (k 5, 3, .inr (.inr (.inr (.inr (fun i => some (w (5 + i)))))))), ((w 5), .inl (k 0, 768, .inl (fun _ => 0))), ((w 6), .inl (k 0, 768, .inl (fun _ => 0))), ((w 7), .inl (k 0, 768, .inl (fun _ => 0))), ((w 1), .inl (k 6, 8, .inr (.inr (.inr (.inr (fun _ => none)))))), ((w 2), .inl (k 6, 20, .inr (.inr (.inr (.inr (fun _ => none)))))), ((w 4), .inl (k 6, 6, .inr (.inr (.inr (.inr (fun _ => none))))))]) (va_Qi (fun r (u : List Value) => ((0 ≤ g.toInt ∧ g.toInt < 4) ∧ u[0]? = some (.int 0) ∧ r = 0) ∨ (¬ (0 ≤ g.toInt ∧ g.toInt < 4) ∧ u[0]? = some (.int 1))) (fun u t => va_P D vwCl [(mo, .inr (13, u))] t.heap ∧ va_D (va_A [(mo, .inr (13, [.int 0, .ref (w 0), .int 0, .ref (w 1), .int 0, .int 0, .ref (w 2), .int 0, .ref (w 3), .ref (w 4), .int 0])), ((w 0), .inl (k 5, 3, .inr (.inr (.inr (.inr (fun i => some (w (5 + i)))))))), ((w 5), .inl (k 0, 768, .inl (fun _ => 0))), ((w 6), .inl (k 0, 768, .inl (fun _ => 0))), ((w 7), .inl (k 0, 768, .inl (fun _ => 0))), ((w 1), .inl (k 6, 8, .inr (.inr (.inr (.inr (fun _ => none)))))), ((w 2), .inl (k 6, 20, .inr (.inr (.inr (.inr (fun _ => none)))))), ((w 4), .inl (k 6, 6, .inr (.inr (.inr (.inr (fun _ => none))))))] sz) [(mo, .inr (13, u))]) (va_A [(mo, .inr (13, [.int 0, .ref (w 0), .int 0, .ref (w 1), .int 0, .int 0, .ref (w 2), .int 0, .ref (w 3), .ref (w 4), .int 0])), ((w 0), .inl (k 5, 3, .inr (.inr (.inr (.inr (fun i => some (w (5 + i)))))))), ((w 5), .inl (k 0, 768, .inl (fun _ => 0))), ((w 6), .inl (k 0, 768, .inl (fun _ => 0))), ((w 7), .inl (k 0, 768, .inl (fun _ => 0))), ((w 1), .inl (k 6, 8, .inr (.inr (.inr (.inr (fun _ => none)))))), ((w 2), .inl (k 6, 20, .inr (.inr (.inr (.inr (fun _ => none)))))), ((w 4), .inl (k 6, 6, .inr (.inr (.inr (.inr (fun _ => none))))))] sz)) 1 768 (va_A [(mo, .inr (13, [.int 0, .ref (w 0), .int 0, .ref (w 1), .int 0, .int 0, .ref (w 2), .int 0, .ref (w 3), .ref (w 4), .int 0])), ((w 0), .inl (k 5, 3, .inr (.inr (.inr (.inr (fun i => some (w (5 + i)))))))), ((w 5), .inl (k 0, 768, .inl (fun _ => 0))), ((w 6), .inl (k 0, 768, .inl (fun _ => 0))), ((w 7), .inl (k 0, 768, .inl (fun _ => 0))), ((w 1), .inl (k 6, 8, .inr (.inr (.inr (.inr (fun _ => none)))))), ((w 2), .inl (k 6, 20, .inr (.inr (.inr (.inr (fun _ => none)))))), ((w 4), .inl (k 6, 6, .inr (.inr (.inr (.inr (fun _ => none))))))] sz) := by
  refine Met.ofW (cc := cX12_entailed) (maxL := 7) (ret := (some .int)) (by decide) rfl ?_
  intro p e s m args below meth c s₁ B hml hv
  obtain ⟨rfl, rfl, hP, hC, hD0, hHf⟩ := hv
  have hx := B.exec
  have hb := B.bytes
  have hr := B.returns
  have hts := atoms_spec (ws := wsX12_entailed) B.pre
  have hown : s.vm.findClass RX12 = some m.cls := findClass_of_methodNamed B.named
  have hlocks := B.notSynchronized
  have hD := hD0.self (sz := s.heap.size)
  generalize hAe : va_A [(mo, .inr (13, [.int 0, .ref (w 0), .int 0, .ref (w 1), .int 0, .int 0, .ref (w 2), .int 0, .ref (w 3), .ref (w 4), .int 0])), ((w 0), .inl (k 5, 3, .inr (.inr (.inr (.inr (fun i => some (w (5 + i)))))))), ((w 5), .inl (k 0, 768, .inl (fun _ => 0))), ((w 6), .inl (k 0, 768, .inl (fun _ => 0))), ((w 7), .inl (k 0, 768, .inl (fun _ => 0))), ((w 1), .inl (k 6, 8, .inr (.inr (.inr (.inr (fun _ => none)))))), ((w 2), .inl (k 6, 20, .inr (.inr (.inr (.inr (fun _ => none)))))), ((w 4), .inl (k 6, 6, .inr (.inr (.inr (.inr (fun _ => none))))))] s.heap.size = A at hD hHf ⊢
  have hA : ∀ q : Nat, s.heap.size ≤ q → A q := fun q h => by rw [← hAe]; exact Or.inr h
  have hS : va_S A s.heap s.heap [] := va_S.rf
  refine w_entry (Nat.le_of_ble_eq_true rfl) (fun ls hl => ?_)
  have hl : lv_has ls 7 [(0, .ref mo), (1, .int g)] := hl
  refine lv_aload_n hx hb dX12_entailed_0 rfl (lv_at hl 0 rfl) ?_
  refine lv_iload_n hx hb dX12_entailed_1 rfl (lv_at hl 1 rfl) ?_
  refine lv_iconst (v := 0) hx hb dX12_entailed_2 (by decide) ?_
  refine lv_iconst (v := 3) hx hb dX12_entailed_3 (by decide) ?_
  refine pz_i (va_runS (As := [.int g, .int 0, .int 3]) (rest := [.ref mo]) ⟨hx, hb, hml, hown, hts⟩ (k_X12_in l D k s.heap g 0 3) (va_cwS 3 hts gX12_entailed_X12_in rfl rfl rfl (by decide +kernel) ⟨Nat.le_of_ble_eq_true rfl, Nat.le_of_ble_eq_true rfl⟩) ⟨pPc_fb, pPc_go hC⟩ rfl rfl hl.1 rfl (lv_room (Nat.le_of_ble_eq_true rfl)) dX12_entailed_4 ⟨Nat.le_of_ble_eq_true rfl, Nat.le_of_ble_eq_true rfl⟩) hS (fun r1 locs hw_r1 hS => ?_)
  have hw_r1 : r1 = bi (0 ≤ g.toInt ∧ g.toInt ≤ 3) := hw_r1
  refine lv_if_eq (tgt := 14) hx hb dX12_entailed_7 (by decide) (fun c_7 => ?_) (fun c_7 => ?_)
  · have f_7 := bi_z hw_r1 c_7
    refine lv_iconst (v := 1) hx hb dX12_entailed_14 (by decide) ?_
    have hPc := hP.sub (ws' := [(mo, .inr (13, [.int 0, .ref (w 0), .int 0, .ref (w 1), .int 0, .int 0, .ref (w 2), .int 0, .ref (w 3), .ref (w 4), .int 0]))]) [0] rfl
    have hDc := hD.sub (ws' := [(mo, .inr (13, [.int 0, .ref (w 0), .int 0, .ref (w 1), .int 0, .int 0, .ref (w 2), .int 0, .ref (w 3), .ref (w 4), .int 0]))]) [0] (by decide) rfl
    have hFc := va_free (wc := [(mo, .inr (13, [.int 0, .ref (w 0), .int 0, .ref (w 1), .int 0, .int 0, .ref (w 2), .int 0, .ref (w 3), .ref (w 4), .int 0]))]) hD hS hA [0] rfl
    refine va_calli (va_runV (As := [.int 1]) (rest := []) ⟨hx, hb, hml, hown, hts⟩ (k_X12_fails l D k e0 s.heap.size mo w 0 1) (cwV 1 hts gX12_entailed_X12_fails rfl rfl rfl (by decide +kernel) ⟨Nat.le_of_ble_eq_true rfl, Nat.le_of_ble_eq_true rfl⟩) ⟨mPc_fb, va_recv hC.1 hPc (ci := 13) (q0 := 0) rfl rfl, mPc_go hC hHf hS hPc hDc hFc⟩ rfl rfl hl.1 rfl (lv_room (Nat.le_of_ble_eq_true rfl)) dX12_entailed_15 ⟨Nat.le_of_ble_eq_true rfl, Nat.le_of_ble_eq_true rfl⟩) hS (fun q9 _ h9 => hFc q9 h9) hFc (fun r3 u2 t H locs ht hvm hw_r3 hB hz1 hk1 hS => ?_)
    obtain ⟨hP1, hD1⟩ := hB
    rw [ht] at hP1
    obtain ⟨hP, hD⟩ := va_join (wr := [((w 0), .inl (k 5, 3, .inr (.inr (.inr (.inr (fun i => some (w (5 + i)))))))), ((w 5), .inl (k 0, 768, .inl (fun _ => 0))), ((w 6), .inl (k 0, 768, .inl (fun _ => 0))), ((w 7), .inl (k 0, 768, .inl (fun _ => 0))), ((w 1), .inl (k 6, 8, .inr (.inr (.inr (.inr (fun _ => none)))))), ((w 2), .inl (k 6, 20, .inr (.inr (.inr (.inr (fun _ => none)))))), ((w 4), .inl (k 6, 6, .inr (.inr (.inr (.inr (fun _ => none))))))]) (w1 := [(mo, .inr (13, [.int 1, .ref (w 0), .int 0, .ref (w 1), .int 0, .int 0, .ref (w 2), .int 0, .ref (w 3), .ref (w 4), .int 0]))]) hP hD [0] [1, 2, 3, 4, 5, 6, 7] rfl rfl (by decide) (by decide) hk1 hFc hP1 hD1
    have hP : va_P D vwCl [((w 0), .inl (k 5, 3, .inr (.inr (.inr (.inr (fun i => some (w (5 + i)))))))), ((w 5), .inl (k 0, 768, .inl (fun _ => 0))), ((w 6), .inl (k 0, 768, .inl (fun _ => 0))), ((w 7), .inl (k 0, 768, .inl (fun _ => 0))), ((w 1), .inl (k 6, 8, .inr (.inr (.inr (.inr (fun _ => none)))))), ((w 2), .inl (k 6, 20, .inr (.inr (.inr (.inr (fun _ => none)))))), ((w 4), .inl (k 6, 6, .inr (.inr (.inr (.inr (fun _ => none)))))), (mo, .inr (13, [.int 1, .ref (w 0), .int 0, .ref (w 1), .int 0, .int 0, .ref (w 2), .int 0, .ref (w 3), .ref (w 4), .int 0]))] H := hP
    have hD : va_D A [((w 0), .inl (k 5, 3, .inr (.inr (.inr (.inr (fun i => some (w (5 + i)))))))), ((w 5), .inl (k 0, 768, .inl (fun _ => 0))), ((w 6), .inl (k 0, 768, .inl (fun _ => 0))), ((w 7), .inl (k 0, 768, .inl (fun _ => 0))), ((w 1), .inl (k 6, 8, .inr (.inr (.inr (.inr (fun _ => none)))))), ((w 2), .inl (k 6, 20, .inr (.inr (.inr (.inr (fun _ => none)))))), ((w 4), .inl (k 6, 6, .inr (.inr (.inr (.inr (fun _ => none)))))), (mo, .inr (13, [.int 1, .ref (w 0), .int 0, .ref (w 1), .int 0, .int 0, .ref (w 2), .int 0, .ref (w 3), .ref (w 4), .int 0]))] := hD
    have e_r3 : r3 = 1 := hw_r3.trans (by decide)
    subst e_r3
    refine lv_if_eq (tgt := 23) hx hb dX12_entailed_18 (by decide) (fun c_18 => absurd c_18 (by decide)) (fun c_18 => ?_)
    refine lv_iconst (v := 0) hx hb dX12_entailed_21 (by decide) ?_
    refine W.widen (k := 1) (n := 768) (Nat.le_of_ble_eq_true rfl) (Nat.le_of_ble_eq_true rfl) ?_
    exact W.iret (v := 0) hx hb hr (fun t ht hW => ⟨⟨0, [.int 1, .ref (w 0), .int 0, .ref (w 1), .int 0, .int 0, .ref (w 2), .int 0, .ref (w 3), .ref (w 4), .int 0], rfl, Or.inr ⟨by omega, rfl⟩, ⟨by rw [ht]; exact hP.sub [7] rfl, hD.sub [7] (by decide) rfl⟩⟩, hS.F ht⟩) hS.2.2 dX12_entailed_22
  · have f_7 := bi_n hw_r1 c_7
    refine lv_iconst (v := 0) hx hb dX12_entailed_10 (by decide) ?_
    refine lv_goto (tgt := 15) hx hb dX12_entailed_11 (by decide) ?_
    have hPc := hP.sub (ws' := [(mo, .inr (13, [.int 0, .ref (w 0), .int 0, .ref (w 1), .int 0, .int 0, .ref (w 2), .int 0, .ref (w 3), .ref (w 4), .int 0]))]) [0] rfl
    have hDc := hD.sub (ws' := [(mo, .inr (13, [.int 0, .ref (w 0), .int 0, .ref (w 1), .int 0, .int 0, .ref (w 2), .int 0, .ref (w 3), .ref (w 4), .int 0]))]) [0] (by decide) rfl
    have hFc := va_free (wc := [(mo, .inr (13, [.int 0, .ref (w 0), .int 0, .ref (w 1), .int 0, .int 0, .ref (w 2), .int 0, .ref (w 3), .ref (w 4), .int 0]))]) hD hS hA [0] rfl
    refine va_calli (va_runV (As := [.int 0]) (rest := []) ⟨hx, hb, hml, hown, hts⟩ (k_X12_fails l D k e0 s.heap.size mo w 0 0) (cwV 1 hts gX12_entailed_X12_fails rfl rfl rfl (by decide +kernel) ⟨Nat.le_of_ble_eq_true rfl, Nat.le_of_ble_eq_true rfl⟩) ⟨mPc_fb, va_recv hC.1 hPc (ci := 13) (q0 := 0) rfl rfl, mPc_go hC hHf hS hPc hDc hFc⟩ rfl rfl hl.1 rfl (lv_room (Nat.le_of_ble_eq_true rfl)) dX12_entailed_15 ⟨Nat.le_of_ble_eq_true rfl, Nat.le_of_ble_eq_true rfl⟩) hS (fun q9 _ h9 => hFc q9 h9) hFc (fun r6 u5 t H locs ht hvm hw_r6 hB hz1 hk1 hS => ?_)
    obtain ⟨hP1, hD1⟩ := hB
    rw [ht] at hP1
    obtain ⟨hP, hD⟩ := va_join (wr := [((w 0), .inl (k 5, 3, .inr (.inr (.inr (.inr (fun i => some (w (5 + i)))))))), ((w 5), .inl (k 0, 768, .inl (fun _ => 0))), ((w 6), .inl (k 0, 768, .inl (fun _ => 0))), ((w 7), .inl (k 0, 768, .inl (fun _ => 0))), ((w 1), .inl (k 6, 8, .inr (.inr (.inr (.inr (fun _ => none)))))), ((w 2), .inl (k 6, 20, .inr (.inr (.inr (.inr (fun _ => none)))))), ((w 4), .inl (k 6, 6, .inr (.inr (.inr (.inr (fun _ => none))))))]) (w1 := [(mo, .inr (13, [.int 0, .ref (w 0), .int 0, .ref (w 1), .int 0, .int 0, .ref (w 2), .int 0, .ref (w 3), .ref (w 4), .int 0]))]) hP hD [0] [1, 2, 3, 4, 5, 6, 7] rfl rfl (by decide) (by decide) hk1 hFc hP1 hD1
    have hP : va_P D vwCl [((w 0), .inl (k 5, 3, .inr (.inr (.inr (.inr (fun i => some (w (5 + i)))))))), ((w 5), .inl (k 0, 768, .inl (fun _ => 0))), ((w 6), .inl (k 0, 768, .inl (fun _ => 0))), ((w 7), .inl (k 0, 768, .inl (fun _ => 0))), ((w 1), .inl (k 6, 8, .inr (.inr (.inr (.inr (fun _ => none)))))), ((w 2), .inl (k 6, 20, .inr (.inr (.inr (.inr (fun _ => none)))))), ((w 4), .inl (k 6, 6, .inr (.inr (.inr (.inr (fun _ => none)))))), (mo, .inr (13, [.int 0, .ref (w 0), .int 0, .ref (w 1), .int 0, .int 0, .ref (w 2), .int 0, .ref (w 3), .ref (w 4), .int 0]))] H := hP
    have hD : va_D A [((w 0), .inl (k 5, 3, .inr (.inr (.inr (.inr (fun i => some (w (5 + i)))))))), ((w 5), .inl (k 0, 768, .inl (fun _ => 0))), ((w 6), .inl (k 0, 768, .inl (fun _ => 0))), ((w 7), .inl (k 0, 768, .inl (fun _ => 0))), ((w 1), .inl (k 6, 8, .inr (.inr (.inr (.inr (fun _ => none)))))), ((w 2), .inl (k 6, 20, .inr (.inr (.inr (.inr (fun _ => none)))))), ((w 4), .inl (k 6, 6, .inr (.inr (.inr (.inr (fun _ => none)))))), (mo, .inr (13, [.int 0, .ref (w 0), .int 0, .ref (w 1), .int 0, .int 0, .ref (w 2), .int 0, .ref (w 3), .ref (w 4), .int 0]))] := hD
    have e_r6 : r6 = 0 := hw_r6.trans (by decide)
    subst e_r6
    refine lv_if_eq (tgt := 23) hx hb dX12_entailed_18 (by decide) (fun c_18 => ?_) (fun c_18 => absurd (by decide) c_18)
    have hg : (0 ≤ g.toInt ∧ g.toInt < 4) := by omega
    obtain ⟨j, hj, rfl⟩ := nI_bd (n := 4) hg.1 hg.2 (by decide)
    refine lv_iconst (v := 0) hx hb dX12_entailed_23 (by decide) ?_
    refine lv_istore_n (lv' := [(2, .int 0), (0, .ref mo), (1, .int (nI j))]) hx hb dX12_entailed_24 rfl hl (by decide) rfl (fun ls hl => ?_)
    refine lv_aload_n hx hb dX12_entailed_25 rfl (lv_at hl 1 rfl) ?_
    refine lv_iload_n hx hb dX12_entailed_26 rfl (lv_at hl 2 rfl) ?_
    have hPc := hP.sub (ws' := [(mo, .inr (13, [.int 0, .ref (w 0), .int 0, .ref (w 1), .int 0, .int 0, .ref (w 2), .int 0, .ref (w 3), .ref (w 4), .int 0])), ((w 0), .inl (k 5, 3, .inr (.inr (.inr (.inr (fun i => some (w (5 + i)))))))), ((w 5), .inl (k 0, 768, .inl (fun _ => 0))), ((w 6), .inl (k 0, 768, .inl (fun _ => 0))), ((w 7), .inl (k 0, 768, .inl (fun _ => 0))), ((w 1), .inl (k 6, 8, .inr (.inr (.inr (.inr (fun _ => none)))))), ((w 2), .inl (k 6, 20, .inr (.inr (.inr (.inr (fun _ => none)))))), ((w 4), .inl (k 6, 6, .inr (.inr (.inr (.inr (fun _ => none))))))]) [7, 0, 1, 2, 3, 4, 5, 6] rfl
    have hDc := hD.sub (ws' := [(mo, .inr (13, [.int 0, .ref (w 0), .int 0, .ref (w 1), .int 0, .int 0, .ref (w 2), .int 0, .ref (w 3), .ref (w 4), .int 0])), ((w 0), .inl (k 5, 3, .inr (.inr (.inr (.inr (fun i => some (w (5 + i)))))))), ((w 5), .inl (k 0, 768, .inl (fun _ => 0))), ((w 6), .inl (k 0, 768, .inl (fun _ => 0))), ((w 7), .inl (k 0, 768, .inl (fun _ => 0))), ((w 1), .inl (k 6, 8, .inr (.inr (.inr (.inr (fun _ => none)))))), ((w 2), .inl (k 6, 20, .inr (.inr (.inr (.inr (fun _ => none)))))), ((w 4), .inl (k 6, 6, .inr (.inr (.inr (.inr (fun _ => none))))))]) [7, 0, 1, 2, 3, 4, 5, 6] (by decide) rfl
    have hFc := va_free (wc := [(mo, .inr (13, [.int 0, .ref (w 0), .int 0, .ref (w 1), .int 0, .int 0, .ref (w 2), .int 0, .ref (w 3), .ref (w 4), .int 0])), ((w 0), .inl (k 5, 3, .inr (.inr (.inr (.inr (fun i => some (w (5 + i)))))))), ((w 5), .inl (k 0, 768, .inl (fun _ => 0))), ((w 6), .inl (k 0, 768, .inl (fun _ => 0))), ((w 7), .inl (k 0, 768, .inl (fun _ => 0))), ((w 1), .inl (k 6, 8, .inr (.inr (.inr (.inr (fun _ => none)))))), ((w 2), .inl (k 6, 20, .inr (.inr (.inr (.inr (fun _ => none)))))), ((w 4), .inl (k 6, 6, .inr (.inr (.inr (.inr (fun _ => none))))))]) hD hS hA [7, 0, 1, 2, 3, 4, 5, 6] rfl
    refine va_callr (va_runV (As := [.int (nI j)]) (rest := []) ⟨hx, hb, hml, hown, hts⟩ (k_X12_proofs l D k e0 H.size mo w j hj) (cwV 1 hts gX12_entailed_X12_proofs rfl rfl rfl (by decide +kernel) ⟨Nat.le_of_ble_eq_true rfl, Nat.le_of_ble_eq_true rfl⟩) ⟨mPc_fb, va_recv hC.1 hPc (ci := 13) (q0 := 0) rfl rfl, mPc_go hC hHf hS hPc hDc hFc⟩ rfl rfl hl.1 rfl (lv_room (Nat.le_of_ble_eq_true rfl)) dX12_entailed_27 ⟨Nat.le_of_ble_eq_true rfl, Nat.le_of_ble_eq_true rfl⟩) hS (fun q9 _ h9 => hFc q9 h9) hFc (fun u8 q10 t H locs ht hvm hw_r9 hB hz1 hk1 hS => ?_)
    obtain ⟨hP1, hD1⟩ := hB
    rw [ht] at hP1
    obtain ⟨hP, hD⟩ := va_join (wr := []) (w1 := [(mo, .inr (13, [.int 0, .ref (w 0), .int 0, .ref (w 1), .int 0, .int 0, .ref (w 2), .int 0, .ref (w 3), .ref (w 4), .int 0])), (q10, .inl (k 2, 768, .inl (fun _ => 0)))]) hP hD [7, 0, 1, 2, 3, 4, 5, 6] [] rfl rfl (by decide) (by decide) hk1 hFc hP1 hD1
    have hP : va_P D vwCl [(mo, .inr (13, [.int 0, .ref (w 0), .int 0, .ref (w 1), .int 0, .int 0, .ref (w 2), .int 0, .ref (w 3), .ref (w 4), .int 0])), (q10, .inl (k 2, 768, .inl (fun _ => 0)))] H := hP
    have hD : va_D A [(mo, .inr (13, [.int 0, .ref (w 0), .int 0, .ref (w 1), .int 0, .int 0, .ref (w 2), .int 0, .ref (w 3), .ref (w 4), .int 0])), (q10, .inl (k 2, 768, .inl (fun _ => 0)))] := hD
    refine lv_astore_n (lv' := [(3, .ref q10), (2, .int 0), (0, .ref mo), (1, .int (nI j))]) hx hb dX12_entailed_30 rfl hl (by decide) rfl (fun ls hl => ?_)
    refine lv_aload_n hx hb dX12_entailed_31 rfl (lv_at hl 0 rfl) ?_
    refine va_alen hx hb hC.1 hP 1 2 rfl rfl (v := 768) (by decide) dX12_entailed_32 ?_
    refine lv_istore (lv' := [(4, .int 768), (3, .ref q10), (2, .int 0), (0, .ref mo), (1, .int (nI j))]) hx hb dX12_entailed_33 hl (by decide) rfl (fun ls hl => ?_)
    refine lv_iconst (v := 0) hx hb dX12_entailed_35 (by decide) ?_
    refine lv_istore (lv' := [(5, .int 0), (4, .int 768), (3, .ref q10), (2, .int 0), (0, .ref mo), (1, .int (nI j))]) hx hb dX12_entailed_36 hl (by decide) rfl (fun ls hl => ?_)
    refine w_loop (N := 768) (fun i locs ls => va_S A s.heap H locs ∧ lv_has ls 7 [(5, .int (nI i)), (4, .int 768), (3, .ref q10), (2, .int 0), (0, .ref mo), (1, .int (nI j))]) ?_ 0 _ _ (Nat.zero_le _) ⟨hS, lv_sub hl [0, 1, 2, 3, 4, 5] rfl⟩
    rintro i locs ls hi ⟨hS, hl⟩ ih
    refine lv_iload hx hb dX12_entailed_38 (lv_at hl 0 rfl) ?_
    refine lv_iload hx hb dX12_entailed_40 (lv_at hl 1 rfl) ?_
    refine lv_icmp_ge (tgt := 70) hx hb dX12_entailed_42 (by decide) (fun c_42 => ?_) (fun c_42 => ?_)
    · have h9 : 768 ≤ i := by have z := i32_le c_42; rw [show (768 : Int32).toInt = (768 : Int) from rfl, nI_toInt (by omega)] at z; omega
      have hi9 : i = 768 := by omega
      refine lv_iload_n hx hb dX12_entailed_70 rfl (lv_at hl 3 rfl) ?_
      exact W.iret (v := 0) hx hb hr (fun t ht hW => ⟨⟨0, [.int 0, .ref (w 0), .int 0, .ref (w 1), .int 0, .int 0, .ref (w 2), .int 0, .ref (w 3), .ref (w 4), .int 0], rfl, Or.inl ⟨hg, rfl, rfl⟩, ⟨by rw [ht]; exact hP.sub [0] rfl, hD.sub [0] (by decide) rfl⟩⟩, hS.F ht⟩) hS.2.2 dX12_entailed_71
    · have hlt : i < 768 := by have z := i32_nle c_42; rw [show (768 : Int32).toInt = (768 : Int) from rfl, nI_toInt (by omega)] at z; omega
      refine lv_aload_n hx hb dX12_entailed_45 rfl (lv_at hl 2 rfl) ?_
      refine lv_iload hx hb dX12_entailed_46 (lv_at hl 0 rfl) ?_
      refine va_iald hx hb hC.1 hP 1 2 rfl rfl (vp_in_nI hlt (by decide)) dX12_entailed_48 ?_
      refine w_top (y := 0) rfl ?_
      refine lv_istore (lv' := [(6, .int 0), (5, .int (nI i)), (4, .int 768), (3, .ref q10), (2, .int 0), (0, .ref mo), (1, .int (nI j))]) hx hb dX12_entailed_49 hl (by decide) rfl (fun ls hl => ?_)
      refine lv_iload_n hx hb dX12_entailed_51 rfl (lv_at hl 4 rfl) ?_
      refine lv_iload hx hb dX12_entailed_52 (lv_at hl 0 rfl) ?_
      refine lv_if_le (tgt := 61) hx hb dX12_entailed_54 (by decide) (fun c_54 => ?_) (fun c_54 => absurd (by decide) c_54)
      refine lv_iconst (v := 0) hx hb dX12_entailed_61 (by decide) ?_
      refine lv_iadd hx hb dX12_entailed_62 ?_
      refine w_top (y := 0) (by decide) ?_
      refine lv_istore_n (lv' := [(2, .int 0), (6, .int 0), (5, .int (nI i)), (4, .int 768), (3, .ref q10), (0, .ref mo), (1, .int (nI j))]) hx hb dX12_entailed_63 rfl hl (by decide) rfl (fun ls hl => ?_)
      refine lv_iinc (v := nI (i + 1)) (lv' := [(5, .int (nI (i + 1))), (2, .int 0), (6, .int 0), (4, .int 768), (3, .ref q10), (0, .ref mo), (1, .int (nI j))]) hx hb dX12_entailed_64 hl (k := 2) rfl (nI_1 i) (by decide) rfl (fun ls hl => ?_)
      refine lv_goto (tgt := 38) hx hb dX12_entailed_67 (by decide) ?_
      exact ih locs ls hlt ⟨hS, lv_sub hl [0, 3, 4, 1, 5, 6] rfl⟩

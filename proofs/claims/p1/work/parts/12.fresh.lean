set_option maxHeartbeats 4000000 in
set_option maxRecDepth 100000 in
theorem k_J7_fill_d0a16 (l : Launch) (D : va_G) (k : Nat → ClassId) (e0 : Nat) (sz : Nat) (z : Nat) : Met l yJ7_fill_d0a16 wsJ7_fill_d0a16 ({ frames := 0, cells := 0, slots := 0, locals := 0 }) (mPc D k e0 sz [.ref z, .long 0] [(z, .inl (k 1, 768, .inr (.inl (fun _ => 0))))]) (va_Qv (fun (_ : Unit) => True) (fun _ t => va_P D vwCl [(z, .inl (k 1, 768, .inr (.inl (fun _ => 0))))] t.heap ∧ va_D (va_A [(z, .inl (k 1, 768, .inr (.inl (fun _ => 0))))] sz) [(z, .inl (k 1, 768, .inr (.inl (fun _ => 0))))]) (va_A [(z, .inl (k 1, 768, .inr (.inl (fun _ => 0))))] sz)) 0 0 (va_A [(z, .inl (k 1, 768, .inr (.inl (fun _ => 0))))] sz) := by
  refine Met.ofW (cc := cJ7_fill_d0a16) (maxL := 5) (ret := none) (by decide) rfl ?_
  intro p e s m args below meth c s₁ B hml hv
  obtain ⟨rfl, rfl, hP, hC, hD0, hHf⟩ := hv
  have hx := B.exec
  have hb := B.bytes
  have hr := B.returns
  have hts := atoms_spec (ws := wsJ7_fill_d0a16) B.pre
  have hown : s.vm.findClass RJ7 = some m.cls := findClass_of_methodNamed B.named
  have hlocks := B.notSynchronized
  have hD := hD0.self (sz := s.heap.size)
  generalize hAe : va_A [(z, .inl (k 1, 768, .inr (.inl (fun _ => 0))))] s.heap.size = A at hD hHf ⊢
  have hA : ∀ q : Nat, s.heap.size ≤ q → A q := fun q h => by rw [← hAe]; exact Or.inr h
  have hS : va_S A s.heap s.heap [] := va_S.rf
  refine w_entry (Nat.le_of_ble_eq_true rfl) (fun ls hl => ?_)
  have hl : lv_has ls 5 [(0, .ref z), (1, .long 0)] := hl
  refine lv_iconst (v := 0) hx hb dJ7_fill_d0a16_0 (by decide) ?_
  refine lv_istore_n (lv' := [(3, .int 0), (0, .ref z), (1, .long 0)]) hx hb dJ7_fill_d0a16_1 rfl hl (by decide) rfl (fun ls hl => ?_)
  refine lv_aload_n hx hb dJ7_fill_d0a16_2 rfl (lv_at hl 1 rfl) ?_
  refine va_alen hx hb hC.1 hP 0 1 rfl rfl (v := 768) (by decide) dJ7_fill_d0a16_3 ?_
  refine lv_istore (lv' := [(4, .int 768), (3, .int 0), (0, .ref z), (1, .long 0)]) hx hb dJ7_fill_d0a16_4 hl (by decide) rfl (fun ls hl => ?_)
  refine w_loopH (N := 768) (fun i H locs ls => va_P D vwCl [(z, .inl (k 1, 768, .inr (.inl (fun _ => 0))))] H ∧ va_D A [(z, .inl (k 1, 768, .inr (.inl (fun _ => 0))))] ∧ va_S A s.heap H locs ∧ lv_has ls 5 [(4, .int 768), (3, .int (nI i)), (0, .ref z), (1, .long 0)]) ?_ 0 _ _ _ (Nat.zero_le _) ⟨hP, hD, hS, lv_sub hl [0, 1, 2, 3] rfl⟩
  rintro i H locs ls hi ⟨hP, hD, hS, hl⟩ ih
  refine lv_iload_n hx hb dJ7_fill_d0a16_6 rfl (lv_at hl 1 rfl) ?_
  refine lv_iload hx hb dJ7_fill_d0a16_7 (lv_at hl 0 rfl) ?_
  refine lv_icmp_ge (tgt := 22) hx hb dJ7_fill_d0a16_9 (by decide) (fun c_9 => ?_) (fun c_9 => ?_)
  · have h9 : 768 ≤ i := by have z := i32_le c_9; rw [show (768 : Int32).toInt = (768 : Int) from rfl, nI_toInt (by omega)] at z; omega
    have hi9 : i = 768 := by omega
    exact W.vret hx hb hr (fun t ht hW => ⟨⟨(), rfl, trivial, ⟨by rw [ht]; exact hP, hD⟩⟩, hS.F ht⟩) hS.2.2 dJ7_fill_d0a16_22
  · have hlt : i < 768 := by have z := i32_nle c_9; rw [show (768 : Int32).toInt = (768 : Int) from rfl, nI_toInt (by omega)] at z; omega
    refine lv_aload_n hx hb dJ7_fill_d0a16_12 rfl (lv_at hl 2 rfl) ?_
    refine lv_iload_n hx hb dJ7_fill_d0a16_13 rfl (lv_at hl 1 rfl) ?_
    refine lv_lload_n hx hb dJ7_fill_d0a16_14 rfl (lv_at hl 3 rfl) ?_
    refine va_last hx hb hC.1 hP hD hS 0 1 rfl rfl (vp_in_nI hlt (by decide)) dJ7_fill_d0a16_15 (fun H locs hP hD hS => ?_)
    rw [upL0] at hP hD
    have hP : va_P D vwCl [(z, .inl (k 1, 768, .inr (.inl (fun _ => 0))))] H := hP
    have hD : va_D A [(z, .inl (k 1, 768, .inr (.inl (fun _ => 0))))] := hD
    refine lv_iinc (v := nI (i + 1)) (lv' := [(3, .int (nI (i + 1))), (4, .int 768), (0, .ref z), (1, .long 0)]) hx hb dJ7_fill_d0a16_16 hl (k := 1) rfl (nI_1 i) (by decide) rfl (fun ls hl => ?_)
    refine lv_goto (tgt := 6) hx hb dJ7_fill_d0a16_19 (by decide) ?_
    exact ih H locs ls hlt ⟨hP, hD, hS, lv_sub hl [1, 0, 2, 3] rfl⟩

set_option maxHeartbeats 4000000 in
set_option maxRecDepth 100000 in
theorem k_X5_begin (l : Launch) (D : va_G) (k : Nat → ClassId) (e0 : Nat) (sz : Nat) (po z ro b : Nat) : Met l yX5_begin wsX5_begin ({ frames := 1, cells := 0, slots := 0, locals := 24 }) (mPc D k e0 sz [.ref po, .ref b] [(po, .inr (8, [.ref z, .int 1, .ref ro])), (z, .inl (k 1, 768, .inr (.inl (fun _ => 0)))), (b, .inl (k 0, 768, .inl (fun _ => 0)))]) (va_Qv (fun (_ : Unit) => True) (fun _ t => va_P D vwCl [(po, .inr (8, [.ref z, .int 1, .ref ro])), (z, .inl (k 1, 768, .inr (.inl (fun _ => 0))))] t.heap ∧ va_D (va_A [(po, .inr (8, [.ref z, .int 1, .ref ro])), (z, .inl (k 1, 768, .inr (.inl (fun _ => 0)))), (b, .inl (k 0, 768, .inl (fun _ => 0)))] sz) [(po, .inr (8, [.ref z, .int 1, .ref ro])), (z, .inl (k 1, 768, .inr (.inl (fun _ => 0))))]) (va_A [(po, .inr (8, [.ref z, .int 1, .ref ro])), (z, .inl (k 1, 768, .inr (.inl (fun _ => 0)))), (b, .inl (k 0, 768, .inl (fun _ => 0)))] sz)) 0 0 (va_A [(po, .inr (8, [.ref z, .int 1, .ref ro])), (z, .inl (k 1, 768, .inr (.inl (fun _ => 0)))), (b, .inl (k 0, 768, .inl (fun _ => 0)))] sz) := by
  refine Met.ofW (cc := cX5_begin) (maxL := 3) (ret := none) (by decide) rfl ?_
  intro p e s m args below meth c s₁ B hml hv
  obtain ⟨rfl, rfl, hP, hC, hD0, hHf⟩ := hv
  have hx := B.exec
  have hb := B.bytes
  have hr := B.returns
  have hts := atoms_spec (ws := wsX5_begin) B.pre
  have hown : s.vm.findClass RX5 = some m.cls := findClass_of_methodNamed B.named
  have hlocks := B.notSynchronized
  have hD := hD0.self (sz := s.heap.size)
  generalize hAe : va_A [(po, .inr (8, [.ref z, .int 1, .ref ro])), (z, .inl (k 1, 768, .inr (.inl (fun _ => 0)))), (b, .inl (k 0, 768, .inl (fun _ => 0)))] s.heap.size = A at hD hHf ⊢
  have hA : ∀ q : Nat, s.heap.size ≤ q → A q := fun q h => by rw [← hAe]; exact Or.inr h
  have hS : va_S A s.heap s.heap [] := va_S.rf
  refine w_entry (Nat.le_of_ble_eq_true rfl) (fun ls hl => ?_)
  have hl : lv_has ls 3 [(0, .ref po), (1, .ref b)] := hl
  refine lv_aload_n hx hb dX5_begin_0 rfl (lv_at hl 0 rfl) ?_
  refine va_get (D := D) (ci := 8) (v := .ref z) (C := RX5) (T := TX5) (N := 3) hx hb hts (by decide +kernel) hown hC.1 hP 0 rfl rfl 0 (by decide) (hts (.fieldLink RX5 11 "Triplegarth$Proofs" "parts" "[J") (by decide +kernel)) (fun _ h9 => h9) rfl dX5_begin_1 ?_
  refine lv_lconst (v := 0) hx hb dX5_begin_4 (by decide) ?_
  have hPc := hP.sub (ws' := [(z, .inl (k 1, 768, .inr (.inl (fun _ => 0))))]) [1] rfl
  have hDc := hD.sub (ws' := [(z, .inl (k 1, 768, .inr (.inl (fun _ => 0))))]) [1] (by decide) rfl
  have hFc := va_free (wc := [(z, .inl (k 1, 768, .inr (.inl (fun _ => 0))))]) hD hS hA [1] rfl
  refine va_callv (va_runS (As := [.ref z, .long 0]) (rest := []) ⟨hx, hb, hml, hown, hts⟩ (k_J7_fill_d0a16 l D k e0 s.heap.size z) (va_cwS 2 hts gX5_begin_J7_fill_d0a16 rfl rfl rfl (by decide +kernel) ⟨Nat.le_of_ble_eq_true rfl, Nat.le_of_ble_eq_true rfl⟩) ⟨mPc_fb, mPc_go hC hHf hS hPc hDc hFc⟩ rfl rfl hl.1 rfl (lv_room (Nat.le_of_ble_eq_true rfl)) dX5_begin_5 ⟨Nat.le_of_ble_eq_true rfl, Nat.le_of_ble_eq_true rfl⟩) hS (fun q9 _ h9 => hFc q9 h9) hFc (fun u1 t H locs ht hvm hw_r2 hB hz1 hk1 hS => ?_)
  obtain ⟨hP1, hD1⟩ := hB
  rw [ht] at hP1
  obtain ⟨hP, hD⟩ := va_join (wr := [(po, .inr (8, [.ref z, .int 1, .ref ro])), (b, .inl (k 0, 768, .inl (fun _ => 0)))]) (w1 := [(z, .inl (k 1, 768, .inr (.inl (fun _ => 0))))]) hP hD [1] [0, 2] rfl rfl (by decide) (by decide) hk1 hFc hP1 hD1
  have hP : va_P D vwCl [(po, .inr (8, [.ref z, .int 1, .ref ro])), (b, .inl (k 0, 768, .inl (fun _ => 0))), (z, .inl (k 1, 768, .inr (.inl (fun _ => 0))))] H := hP
  have hD : va_D A [(po, .inr (8, [.ref z, .int 1, .ref ro])), (b, .inl (k 0, 768, .inl (fun _ => 0))), (z, .inl (k 1, 768, .inr (.inl (fun _ => 0))))] := hD
  refine lv_aload_n hx hb dX5_begin_8 rfl (lv_at hl 0 rfl) ?_
  refine lv_iconst (v := 1) hx hb dX5_begin_9 (by decide) ?_
  refine va_put (D := D) (ci := 8) (v := .int 1) (ty := .int) (C := RX5) (T := TX5) (N := 3) hx hb hts (by decide +kernel) tyX5 tyX5_ok nmX5 hown hC.1 hP hD hS 0 rfl rfl 1 (by decide) (hts (.fieldLink RX5 15 "Triplegarth$Proofs" "width" "I") (by decide +kernel)) (fun _ h9 => h9) rfl (by decide +kernel) rfl rfl (Nat.le_of_ble_eq_true rfl) dX5_begin_10 (fun H locs hP hD hS => ?_)
  have hP : va_P D vwCl [(po, .inr (8, [.ref z, .int 1, .ref ro])), (b, .inl (k 0, 768, .inl (fun _ => 0))), (z, .inl (k 1, 768, .inr (.inl (fun _ => 0))))] H := hP
  have hD : va_D A [(po, .inr (8, [.ref z, .int 1, .ref ro])), (b, .inl (k 0, 768, .inl (fun _ => 0))), (z, .inl (k 1, 768, .inr (.inl (fun _ => 0))))] := hD
  refine lv_iconst (v := 0) hx hb dX5_begin_13 (by decide) ?_
  refine lv_istore_n (lv' := [(2, .int 0), (0, .ref po), (1, .ref b)]) hx hb dX5_begin_14 rfl hl (by decide) rfl (fun ls hl => ?_)
  refine w_loopH (N := 768) (fun i H locs ls => va_P D vwCl [(po, .inr (8, [.ref z, .int 1, .ref ro])), (b, .inl (k 0, 768, .inl (fun _ => 0))), (z, .inl (k 1, 768, .inr (.inl (fun _ => 0))))] H ∧ va_D A [(po, .inr (8, [.ref z, .int 1, .ref ro])), (b, .inl (k 0, 768, .inl (fun _ => 0))), (z, .inl (k 1, 768, .inr (.inl (fun _ => 0))))] ∧ va_S A s.heap H locs ∧ lv_has ls 3 [(2, .int (nI i)), (0, .ref po), (1, .ref b)]) ?_ 0 _ _ _ (Nat.zero_le _) ⟨hP, hD, hS, lv_sub hl [0, 1, 2] rfl⟩
  rintro i H locs ls hi ⟨hP, hD, hS, hl⟩ ih
  refine lv_iload_n hx hb dX5_begin_15 rfl (lv_at hl 0 rfl) ?_
  refine lv_aload_n hx hb dX5_begin_16 rfl (lv_at hl 2 rfl) ?_
  refine va_alen hx hb hC.1 hP 1 0 rfl rfl (v := 768) (by decide) dX5_begin_17 ?_
  refine lv_icmp_ge (tgt := 53) hx hb dX5_begin_18 (by decide) (fun c_18 => ?_) (fun c_18 => ?_)
  · have h9 : 768 ≤ i := by have z := i32_le c_18; rw [show (768 : Int32).toInt = (768 : Int) from rfl, nI_toInt (by omega)] at z; omega
    have hi9 : i = 768 := by omega
    exact W.vret hx hb hr (fun t ht hW => ⟨⟨(), rfl, trivial, ⟨by rw [ht]; exact hP.sub [0, 2] rfl, hD.sub [0, 2] (by decide) rfl⟩⟩, hS.F ht⟩) hS.2.2 dX5_begin_53
  · have hlt : i < 768 := by have z := i32_nle c_18; rw [show (768 : Int32).toInt = (768 : Int) from rfl, nI_toInt (by omega)] at z; omega
    refine lv_iload_n hx hb dX5_begin_21 rfl (lv_at hl 0 rfl) ?_
    refine lv_aload_n hx hb dX5_begin_22 rfl (lv_at hl 1 rfl) ?_
    refine va_get (D := D) (ci := 8) (v := .ref z) (C := RX5) (T := TX5) (N := 3) hx hb hts (by decide +kernel) hown hC.1 hP 0 rfl rfl 0 (by decide) (hts (.fieldLink RX5 11 "Triplegarth$Proofs" "parts" "[J") (by decide +kernel)) (fun _ h9 => h9) rfl dX5_begin_23 ?_
    refine va_alen hx hb hC.1 hP 2 1 rfl rfl (v := 768) (by decide) dX5_begin_26 ?_
    refine lv_icmp_ge (tgt := 53) hx hb dX5_begin_27 (by decide) (fun c_27 => absurd c_27 (nI_ge hlt (by decide))) (fun c_27 => ?_)
    refine lv_aload_n hx hb dX5_begin_30 rfl (lv_at hl 1 rfl) ?_
    refine va_get (D := D) (ci := 8) (v := .ref z) (C := RX5) (T := TX5) (N := 3) hx hb hts (by decide +kernel) hown hC.1 hP 0 rfl rfl 0 (by decide) (hts (.fieldLink RX5 11 "Triplegarth$Proofs" "parts" "[J") (by decide +kernel)) (fun _ h9 => h9) rfl dX5_begin_31 ?_
    refine lv_iload_n hx hb dX5_begin_34 rfl (lv_at hl 0 rfl) ?_
    refine lv_aload_n hx hb dX5_begin_35 rfl (lv_at hl 2 rfl) ?_
    refine lv_iload_n hx hb dX5_begin_36 rfl (lv_at hl 0 rfl) ?_
    refine va_zald hx hb hC.1 hP 1 0 rfl rfl (vp_in_nI hlt (by decide)) dX5_begin_37 ?_
    refine w_top (y := 0) rfl ?_
    refine lv_if_eq (tgt := 45) hx hb dX5_begin_38 (by decide) (fun c_38 => ?_) (fun c_38 => absurd (by decide) c_38)
    refine lv_lconst (v := 0) hx hb dX5_begin_45 (by decide) ?_
    refine va_last hx hb hC.1 hP hD hS 2 1 rfl rfl (vp_in_nI hlt (by decide)) dX5_begin_46 (fun H locs hP hD hS => ?_)
    rw [upL0] at hP hD
    have hP : va_P D vwCl [(po, .inr (8, [.ref z, .int 1, .ref ro])), (b, .inl (k 0, 768, .inl (fun _ => 0))), (z, .inl (k 1, 768, .inr (.inl (fun _ => 0))))] H := hP
    have hD : va_D A [(po, .inr (8, [.ref z, .int 1, .ref ro])), (b, .inl (k 0, 768, .inl (fun _ => 0))), (z, .inl (k 1, 768, .inr (.inl (fun _ => 0))))] := hD
    refine lv_iinc (v := nI (i + 1)) (lv' := [(2, .int (nI (i + 1))), (0, .ref po), (1, .ref b)]) hx hb dX5_begin_47 hl (k := 0) rfl (nI_1 i) (by decide) rfl (fun ls hl => ?_)
    refine lv_goto (tgt := 15) hx hb dX5_begin_50 (by decide) ?_
    exact ih H locs ls hlt ⟨hP, hD, hS, lv_sub hl [0, 1, 2] rfl⟩

set_option maxHeartbeats 4000000 in
set_option maxRecDepth 100000 in
theorem k_X5_has (l : Launch) (D : va_G) (k : Nat → ClassId) (h0 : Heap) (po z ro j : Nat) (hP : va_P D vwCl [(po, .inr (8, [.ref z, .int 1, .ref ro])), (z, .inl (k 1, 768, .inr (.inl (fun _ => 0))))] h0) (hj : j < 768) : Met l yX5_has wsX5_has ({ frames := 1, cells := 0, slots := 0, locals := 21 }) (pPc D k [.ref po, .int (nI j)] h0) (va_Qi (fun r (_ : Unit) => r = 0) (fun _ t => t.heap = h0) (fun _ => False)) 0 0 (fun _ => False) := by
  refine Met.ofW (cc := cX5_has) (maxL := 3) (ret := (some .boolean)) (by decide) rfl ?_
  intro p e s m args below meth c s₁ B hml hv
  obtain ⟨rfl, rfl, hC⟩ := hv
  have hx := B.exec
  have hb := B.bytes
  have hr := B.returns
  have hts := atoms_spec (ws := wsX5_has) B.pre
  have hown : s.vm.findClass RX5 = some m.cls := findClass_of_methodNamed B.named
  have hlocks := B.notSynchronized
  have hS : va_S (fun _ => False) s.heap s.heap [] := va_S.rf
  refine w_entry (Nat.le_of_ble_eq_true rfl) (fun ls hl => ?_)
  have hl : lv_has ls 3 [(0, .ref po), (1, .int (nI j))] := hl
  refine lv_iload_n hx hb dX5_has_0 rfl (lv_at hl 1 rfl) ?_
  refine lv_istore_n (lv' := [(2, .int (nI j)), (0, .ref po), (1, .int (nI j))]) hx hb dX5_has_1 rfl hl (by decide) rfl (fun ls hl => ?_)
  refine lv_iload_n hx hb dX5_has_2 rfl (lv_at hl 2 rfl) ?_
  refine lv_sipush (v := 768) hx hb dX5_has_3 (by decide) ?_
  refine pz_i (va_runSN (As := [.int (nI j), .int 768]) (rest := []) ⟨hx, hb, hml, hown, hts⟩ (k_X11_isBelow l D k s.heap (nI j) 768) ⟨va_cnB 2 hts gX5_has_X11_isBelow_n28 rfl rfl rfl hC.2.1.2.2.2.1 (hts (.initialized RX11) (by decide +kernel)) (by decide +kernel) ⟨Nat.le_of_ble_eq_true rfl, Nat.le_of_ble_eq_true rfl⟩, hts (.static yX11_isBelow) (by decide +kernel), trivial⟩ ⟨pPc_fb, pPc_go hC⟩ rfl rfl hl.1 rfl (lv_room (Nat.le_of_ble_eq_true rfl)) dX5_has_6 ⟨Nat.le_of_ble_eq_true rfl, Nat.le_of_ble_eq_true rfl⟩) hS (fun r1 locs hw_r1 hS => ?_)
  refine lv_if_eq (tgt := 43) hx hb dX5_has_9 (by decide) (fun c_9 => absurd c_9 (fun q9 => bi_z hw_r1 q9 (nI_bw hj (by decide)))) (fun c_9 => ?_)
  refine lv_iload_n hx hb dX5_has_12 rfl (lv_at hl 0 rfl) ?_
  refine lv_aload_n hx hb dX5_has_13 rfl (lv_at hl 1 rfl) ?_
  refine va_get (D := D) (ci := 8) (v := .ref z) (C := RX5) (T := TX5) (N := 3) hx hb hts (by decide +kernel) hown hC.1 hP 0 rfl rfl 0 (by decide) (hts (.fieldLink RX5 11 "Triplegarth$Proofs" "parts" "[J") (by decide +kernel)) (fun _ h9 => h9) rfl dX5_has_14 ?_
  refine va_alen hx hb hC.1 hP 1 1 rfl rfl (v := 768) (by decide) dX5_has_17 ?_
  refine lv_icmp_ge (tgt := 43) hx hb dX5_has_18 (by decide) (fun c_18 => absurd c_18 (nI_ge hj (by decide))) (fun c_18 => ?_)
  refine lv_aload_n hx hb dX5_has_21 rfl (lv_at hl 1 rfl) ?_
  refine va_get (D := D) (ci := 8) (v := .ref z) (C := RX5) (T := TX5) (N := 3) hx hb hts (by decide +kernel) hown hC.1 hP 0 rfl rfl 0 (by decide) (hts (.fieldLink RX5 11 "Triplegarth$Proofs" "parts" "[J") (by decide +kernel)) (fun _ h9 => h9) rfl dX5_has_22 ?_
  refine lv_iload_n hx hb dX5_has_25 rfl (lv_at hl 0 rfl) ?_
  refine va_lald hx hb hC.1 hP 1 1 rfl rfl (vp_in_nI hj (by decide)) dX5_has_26 ?_
  refine w_topl (y := 0) rfl ?_
  refine lv_lconst (v := 0) hx hb dX5_has_27 (by decide) ?_
  refine W.lcmp hx hb dX5_has_28 ?_
  refine w_top (y := 0) (rfl) ?_
  refine lv_if_eq (tgt := 34) hx hb dX5_has_29 (by decide) (fun c_29 => ?_) (fun c_29 => absurd (by decide) c_29)
  refine lv_iincW (v := nI (j + 768)) (lv' := [(2, .int (nI (j + 768))), (0, .ref po), (1, .int (nI j))]) hx hb dX5_has_34 hl (k := 0) rfl (nI_add j 768) (by decide) rfl (fun ls hl => ?_)
  refine lv_goto (tgt := 2) hx hb dX5_has_40 (by decide) ?_
  refine lv_iload_n hx hb dX5_has_2 rfl (lv_at hl 2 rfl) ?_
  refine lv_sipush (v := 768) hx hb dX5_has_3 (by decide) ?_
  refine pz_i (va_runSN (As := [.int (nI j), .int 768]) (rest := []) ⟨hx, hb, hml, hown, hts⟩ (k_X11_isBelow l D k s.heap (nI j) 768) ⟨va_cnB 2 hts gX5_has_X11_isBelow_n28 rfl rfl rfl hC.2.1.2.2.2.1 (hts (.initialized RX11) (by decide +kernel)) (by decide +kernel) ⟨Nat.le_of_ble_eq_true rfl, Nat.le_of_ble_eq_true rfl⟩, hts (.static yX11_isBelow) (by decide +kernel), trivial⟩ ⟨pPc_fb, pPc_go hC⟩ rfl rfl hl.1 rfl (lv_room (Nat.le_of_ble_eq_true rfl)) dX5_has_6 ⟨Nat.le_of_ble_eq_true rfl, Nat.le_of_ble_eq_true rfl⟩) hS (fun r2 locs hw_r2 hS => ?_)
  refine lv_if_eq (tgt := 43) hx hb dX5_has_9 (by decide) (fun c_9_1 => absurd c_9_1 (fun q9 => bi_z hw_r2 q9 (nI_bw hj (by decide)))) (fun c_9_1 => ?_)
  refine lv_iload_n hx hb dX5_has_12 rfl (lv_at hl 0 rfl) ?_
  refine lv_aload_n hx hb dX5_has_13 rfl (lv_at hl 1 rfl) ?_
  refine va_get (D := D) (ci := 8) (v := .ref z) (C := RX5) (T := TX5) (N := 3) hx hb hts (by decide +kernel) hown hC.1 hP 0 rfl rfl 0 (by decide) (hts (.fieldLink RX5 11 "Triplegarth$Proofs" "parts" "[J") (by decide +kernel)) (fun _ h9 => h9) rfl dX5_has_14 ?_
  refine va_alen hx hb hC.1 hP 1 1 rfl rfl (v := 768) (by decide) dX5_has_17 ?_
  refine lv_icmp_ge (tgt := 43) hx hb dX5_has_18 (by decide) (fun c_18_1 => ?_) (fun c_18_1 => absurd (nI_le (a := 768) (b := j + 768) (by omega) (by omega)) c_18_1)
  refine lv_iconst (v := 0) hx hb dX5_has_43 (by decide) ?_
  exact W.zret (v := 0) (ty := .boolean) hx hb hr (rfl) (fun t ht hW => ⟨⟨0, (), rfl, rfl, ht⟩, hS.F ht⟩) hS.2.2 dX5_has_44

set_option maxHeartbeats 4000000 in
set_option maxRecDepth 100000 in
theorem k_X5_count (l : Launch) (D : va_G) (k : Nat → ClassId) (h0 : Heap) (po z ro : Nat) (hP : va_P D vwCl [(po, .inr (8, [.ref z, .int 1, .ref ro])), (z, .inl (k 1, 768, .inr (.inl (fun _ => 0))))] h0)  : Met l yX5_count wsX5_count ({ frames := 2, cells := 0, slots := 0, locals := 43 }) (pPc D k [.ref po] h0) (va_Qi (fun r (_ : Unit) => r = 0) (fun _ t => t.heap = h0) (fun _ => False)) 0 0 (fun _ => False) := by
  refine Met.ofW (cc := cX5_count) (maxL := 3) (ret := (some .int)) (by decide) rfl ?_
  intro p e s m args below meth c s₁ B hml hv
  obtain ⟨rfl, rfl, hC⟩ := hv
  have hx := B.exec
  have hb := B.bytes
  have hr := B.returns
  have hts := atoms_spec (ws := wsX5_count) B.pre
  have hown : s.vm.findClass RX5 = some m.cls := findClass_of_methodNamed B.named
  have hlocks := B.notSynchronized
  have hS : va_S (fun _ => False) s.heap s.heap [] := va_S.rf
  refine w_entry (Nat.le_of_ble_eq_true rfl) (fun ls hl => ?_)
  have hl : lv_has ls 3 [(0, .ref po)] := hl
  refine lv_iconst (v := 0) hx hb dX5_count_0 (by decide) ?_
  refine lv_istore_n (lv' := [(1, .int 0), (0, .ref po)]) hx hb dX5_count_1 rfl hl (by decide) rfl (fun ls hl => ?_)
  refine lv_iconst (v := 0) hx hb dX5_count_2 (by decide) ?_
  refine lv_istore_n (lv' := [(2, .int 0), (1, .int 0), (0, .ref po)]) hx hb dX5_count_3 rfl hl (by decide) rfl (fun ls hl => ?_)
  refine w_loop (N := 768) (fun i locs ls => va_S (fun _ => False) s.heap s.heap locs ∧ lv_has ls 3 [(2, .int (nI i)), (1, .int 0), (0, .ref po)]) ?_ 0 _ _ (Nat.zero_le _) ⟨hS, lv_sub hl [0, 1, 2] rfl⟩
  rintro i locs ls hi ⟨hS, hl⟩ ih
  refine lv_iload_n hx hb dX5_count_4 rfl (lv_at hl 0 rfl) ?_
  refine lv_sipush (v := 768) hx hb dX5_count_5 (by decide) ?_
  refine lv_icmp_ge (tgt := 28) hx hb dX5_count_8 (by decide) (fun c_8 => ?_) (fun c_8 => ?_)
  · have h9 : 768 ≤ i := by have z := i32_le c_8; rw [show (768 : Int32).toInt = (768 : Int) from rfl, nI_toInt (by omega)] at z; omega
    have hi9 : i = 768 := by omega
    refine lv_iload_n hx hb dX5_count_28 rfl (lv_at hl 1 rfl) ?_
    exact W.iret (v := 0) hx hb hr (fun t ht hW => ⟨⟨0, (), rfl, rfl, ht⟩, hS.F ht⟩) hS.2.2 dX5_count_29
  · have hlt : i < 768 := by have z := i32_nle c_8; rw [show (768 : Int32).toInt = (768 : Int) from rfl, nI_toInt (by omega)] at z; omega
    refine lv_aload_n hx hb dX5_count_11 rfl (lv_at hl 2 rfl) ?_
    refine lv_iload_n hx hb dX5_count_12 rfl (lv_at hl 0 rfl) ?_
    refine pz_i (va_runV (As := [.int (nI i)]) (rest := []) ⟨hx, hb, hml, hown, hts⟩ (k_X5_has l D k s.heap po z ro i (hP.sub [0, 1] rfl) hlt) (cwV 1 hts gX5_count_X5_has rfl rfl rfl (by decide +kernel) ⟨Nat.le_of_ble_eq_true rfl, Nat.le_of_ble_eq_true rfl⟩) ⟨pPc_fb, va_recv hC.1 hP (ci := 8) (q0 := 0) rfl rfl, pPc_go hC⟩ rfl rfl hl.1 rfl (lv_room (Nat.le_of_ble_eq_true rfl)) dX5_count_13 ⟨Nat.le_of_ble_eq_true rfl, Nat.le_of_ble_eq_true rfl⟩) hS (fun r1 locs hw_r1 hS => ?_)
    subst hw_r1
    refine lv_if_eq (tgt := 22) hx hb dX5_count_16 (by decide) (fun c_16 => ?_) (fun c_16 => absurd (by decide) c_16)
    refine lv_iinc (v := nI (i + 1)) (lv' := [(2, .int (nI (i + 1))), (1, .int 0), (0, .ref po)]) hx hb dX5_count_22 hl (k := 0) rfl (nI_1 i) (by decide) rfl (fun ls hl => ?_)
    refine lv_goto (tgt := 4) hx hb dX5_count_25 (by decide) ?_
    exact ih locs ls hlt ⟨hS, lv_sub hl [0, 1, 2] rfl⟩

set_option maxHeartbeats 4000000 in
set_option maxRecDepth 100000 in
theorem k_X1_has (l : Launch) (D : va_G) (k : Nat → ClassId) (h0 : Heap) (g b po j : Nat) (hP : va_P D vwCl [(g, .inr (4, [.ref b, .ref po, .int 0, .int 0, .int 0])), (b, .inl (k 0, 768, .inl (fun _ => 0)))] h0) (hj : j < 768) : Met l yX1_has wsX1_has ({ frames := 1, cells := 0, slots := 0, locals := 21 }) (pPc D k [.ref g, .int (nI j)] h0) (va_Qi (fun r (_ : Unit) => r = 0) (fun _ t => t.heap = h0) (fun _ => False)) 0 0 (fun _ => False) := by
  refine Met.ofW (cc := cX1_has) (maxL := 2) (ret := (some .boolean)) (by decide) rfl ?_
  intro p e s m args below meth c s₁ B hml hv
  obtain ⟨rfl, rfl, hC⟩ := hv
  have hx := B.exec
  have hb := B.bytes
  have hr := B.returns
  have hts := atoms_spec (ws := wsX1_has) B.pre
  have hown : s.vm.findClass RX1 = some m.cls := findClass_of_methodNamed B.named
  have hlocks := B.notSynchronized
  have hS : va_S (fun _ => False) s.heap s.heap [] := va_S.rf
  refine w_entry (Nat.le_of_ble_eq_true rfl) (fun ls hl => ?_)
  have hl : lv_has ls 2 [(0, .ref g), (1, .int (nI j))] := hl
  refine lv_iload_n hx hb dX1_has_0 rfl (lv_at hl 1 rfl) ?_
  refine lv_sipush (v := 768) hx hb dX1_has_1 (by decide) ?_
  refine pz_i (va_runSN (As := [.int (nI j), .int 768]) (rest := []) ⟨hx, hb, hml, hown, hts⟩ (k_X11_isBelow l D k s.heap (nI j) 768) ⟨va_cnB 2 hts gX1_has_X11_isBelow_n33 rfl rfl rfl hC.2.1.2.2.1 (hts (.initialized RX11) (by decide +kernel)) (by decide +kernel) ⟨Nat.le_of_ble_eq_true rfl, Nat.le_of_ble_eq_true rfl⟩, hts (.static yX11_isBelow) (by decide +kernel), trivial⟩ ⟨pPc_fb, pPc_go hC⟩ rfl rfl hl.1 rfl (lv_room (Nat.le_of_ble_eq_true rfl)) dX1_has_4 ⟨Nat.le_of_ble_eq_true rfl, Nat.le_of_ble_eq_true rfl⟩) hS (fun r1 locs hw_r1 hS => ?_)
  refine lv_if_eq (tgt := 23) hx hb dX1_has_7 (by decide) (fun c_7 => absurd c_7 (fun q9 => bi_z hw_r1 q9 (nI_bw hj (by decide)))) (fun c_7 => ?_)
  refine lv_aload_n hx hb dX1_has_10 rfl (lv_at hl 0 rfl) ?_
  refine va_get (D := D) (ci := 4) (v := .ref b) (C := RX1) (T := TX1) (N := 5) hx hb hts (by decide +kernel) hown hC.1 hP 0 rfl rfl 0 (by decide) (hts (.fieldLink RX1 9 "Triplegarth$Graph" "there" "[Z") (by decide +kernel)) (fun _ h9 => h9) rfl dX1_has_11 ?_
  refine lv_iload_n hx hb dX1_has_14 rfl (lv_at hl 1 rfl) ?_
  refine va_zald hx hb hC.1 hP 1 0 rfl rfl (vp_in_nI hj (by decide)) dX1_has_15 ?_
  refine w_top (y := 0) rfl ?_
  refine lv_if_eq (tgt := 23) hx hb dX1_has_16 (by decide) (fun c_16 => ?_) (fun c_16 => absurd (by decide) c_16)
  refine lv_iconst (v := 0) hx hb dX1_has_23 (by decide) ?_
  exact W.zret (v := 0) (ty := .boolean) hx hb hr (rfl) (fun t ht hW => ⟨⟨0, (), rfl, rfl, ht⟩, hS.F ht⟩) hS.2.2 dX1_has_24

set_option maxHeartbeats 4000000 in
set_option maxRecDepth 100000 in
theorem k_X1_put (l : Launch) (D : va_G) (k : Nat → ClassId) (e0 : Nat) (sz : Nat) (g b po j : Nat) (hj : j < 768) : Met l yX1_put wsX1_put ({ frames := 1, cells := 0, slots := 0, locals := 21 }) (mPc D k e0 sz [.ref g, .int (nI j)] [(g, .inr (4, [.ref b, .ref po, .int 0, .int 0, .int 0])), (b, .inl (k 0, 768, .inl (fun _ => 0)))]) (va_Qv (fun (_ : Unit) => True) (fun _ t => True) (va_A [(g, .inr (4, [.ref b, .ref po, .int 0, .int 0, .int 0])), (b, .inl (k 0, 768, .inl (fun _ => 0)))] sz)) 0 0 (va_A [(g, .inr (4, [.ref b, .ref po, .int 0, .int 0, .int 0])), (b, .inl (k 0, 768, .inl (fun _ => 0)))] sz) := by
  refine Met.ofW (cc := cX1_put) (maxL := 2) (ret := none) (by decide) rfl ?_
  intro p e s m args below meth c s₁ B hml hv
  obtain ⟨rfl, rfl, hP, hC, hD0, hHf⟩ := hv
  have hx := B.exec
  have hb := B.bytes
  have hr := B.returns
  have hts := atoms_spec (ws := wsX1_put) B.pre
  have hown : s.vm.findClass RX1 = some m.cls := findClass_of_methodNamed B.named
  have hlocks := B.notSynchronized
  have hD := hD0.self (sz := s.heap.size)
  generalize hAe : va_A [(g, .inr (4, [.ref b, .ref po, .int 0, .int 0, .int 0])), (b, .inl (k 0, 768, .inl (fun _ => 0)))] s.heap.size = A at hD hHf ⊢
  have hA : ∀ q : Nat, s.heap.size ≤ q → A q := fun q h => by rw [← hAe]; exact Or.inr h
  have hS : va_S A s.heap s.heap [] := va_S.rf
  refine w_entry (Nat.le_of_ble_eq_true rfl) (fun ls hl => ?_)
  have hl : lv_has ls 2 [(0, .ref g), (1, .int (nI j))] := hl
  refine lv_iload_n hx hb dX1_put_0 rfl (lv_at hl 1 rfl) ?_
  refine lv_sipush (v := 768) hx hb dX1_put_1 (by decide) ?_
  refine pz_i (va_runSN (As := [.int (nI j), .int 768]) (rest := []) ⟨hx, hb, hml, hown, hts⟩ (k_X11_isBelow l D k s.heap (nI j) 768) ⟨va_cnB 2 hts gX1_put_X11_isBelow_n33 rfl rfl rfl hC.2.1.2.2.1 (hts (.initialized RX11) (by decide +kernel)) (by decide +kernel) ⟨Nat.le_of_ble_eq_true rfl, Nat.le_of_ble_eq_true rfl⟩, hts (.static yX11_isBelow) (by decide +kernel), trivial⟩ ⟨pPc_fb, pPc_go hC⟩ rfl rfl hl.1 rfl (lv_room (Nat.le_of_ble_eq_true rfl)) dX1_put_4 ⟨Nat.le_of_ble_eq_true rfl, Nat.le_of_ble_eq_true rfl⟩) hS (fun r1 locs hw_r1 hS => ?_)
  refine lv_if_eq (tgt := 41) hx hb dX1_put_7 (by decide) (fun c_7 => absurd c_7 (fun q9 => bi_z hw_r1 q9 (nI_bw hj (by decide)))) (fun c_7 => ?_)
  refine lv_aload_n hx hb dX1_put_10 rfl (lv_at hl 0 rfl) ?_
  refine va_get (D := D) (ci := 4) (v := .ref b) (C := RX1) (T := TX1) (N := 5) hx hb hts (by decide +kernel) hown hC.1 hP 0 rfl rfl 0 (by decide) (hts (.fieldLink RX1 9 "Triplegarth$Graph" "there" "[Z") (by decide +kernel)) (fun _ h9 => h9) rfl dX1_put_11 ?_
  refine lv_iload_n hx hb dX1_put_14 rfl (lv_at hl 1 rfl) ?_
  refine va_zald hx hb hC.1 hP 1 0 rfl rfl (vp_in_nI hj (by decide)) dX1_put_15 ?_
  refine w_top (y := 0) rfl ?_
  refine lv_if_ne (tgt := 41) hx hb dX1_put_16 (by decide) (fun c_16 => absurd c_16 (by decide)) (fun c_16 => ?_)
  refine lv_aload_n hx hb dX1_put_19 rfl (lv_at hl 0 rfl) ?_
  refine va_get (D := D) (ci := 4) (v := .ref b) (C := RX1) (T := TX1) (N := 5) hx hb hts (by decide +kernel) hown hC.1 hP 0 rfl rfl 0 (by decide) (hts (.fieldLink RX1 9 "Triplegarth$Graph" "there" "[Z") (by decide +kernel)) (fun _ h9 => h9) rfl dX1_put_20 ?_
  refine lv_iload_n hx hb dX1_put_23 rfl (lv_at hl 1 rfl) ?_
  refine lv_iconst (v := 1) hx hb dX1_put_24 (by decide) ?_
  refine va_zast hx hb hC.1 hP hD hS 1 0 rfl rfl (vp_in_nI hj (by decide)) dX1_put_25 (fun H locs hP hD hS => ?_)
  have hP : va_P D vwCl [(g, .inr (4, [.ref b, .ref po, .int 0, .int 0, .int 0])), (b, .inl (k 0, 768, .inl (upd (fun _ => 0) (nI j).toNatClampNeg (vp_nar .boolean 1))))] H := hP
  have hD : va_D A [(g, .inr (4, [.ref b, .ref po, .int 0, .int 0, .int 0])), (b, .inl (k 0, 768, .inl (upd (fun _ => 0) (nI j).toNatClampNeg (vp_nar .boolean 1))))] := hD
  refine lv_aload_n hx hb dX1_put_26 rfl (lv_at hl 0 rfl) ?_
  refine lv_dup hx hb dX1_put_27 rfl ?_
  refine va_get (D := D) (ci := 4) (v := .int 0) (C := RX1) (T := TX1) (N := 5) hx hb hts (by decide +kernel) hown hC.1 hP 0 rfl rfl 2 (by decide) (hts (.fieldLink RX1 22 "Triplegarth$Graph" "count" "I") (by decide +kernel)) (fun _ h9 => h9) rfl dX1_put_28 ?_
  refine lv_iconst (v := 1) hx hb dX1_put_31 (by decide) ?_
  refine lv_iadd hx hb dX1_put_32 ?_
  refine w_top (y := 1) (by decide) ?_
  refine va_put (D := D) (ci := 4) (v := .int 1) (ty := .int) (C := RX1) (T := TX1) (N := 5) hx hb hts (by decide +kernel) tyX1 tyX1_ok nmX1 hown hC.1 hP hD hS 0 rfl rfl 2 (by decide) (hts (.fieldLink RX1 22 "Triplegarth$Graph" "count" "I") (by decide +kernel)) (fun _ h9 => h9) rfl (by decide +kernel) rfl rfl (Nat.le_of_ble_eq_true rfl) dX1_put_33 (fun H locs hP hD hS => ?_)
  have hP : va_P D vwCl [(g, .inr (4, [.ref b, .ref po, .int 1, .int 0, .int 0])), (b, .inl (k 0, 768, .inl (upd (fun _ => 0) (nI j).toNatClampNeg (vp_nar .boolean 1))))] H := hP
  have hD : va_D A [(g, .inr (4, [.ref b, .ref po, .int 1, .int 0, .int 0])), (b, .inl (k 0, 768, .inl (upd (fun _ => 0) (nI j).toNatClampNeg (vp_nar .boolean 1))))] := hD
  refine lv_aload_n hx hb dX1_put_36 rfl (lv_at hl 0 rfl) ?_
  refine lv_iconst (v := 0) hx hb dX1_put_37 (by decide) ?_
  refine va_put (D := D) (ci := 4) (v := .int 0) (ty := .boolean) (C := RX1) (T := TX1) (N := 5) hx hb hts (by decide +kernel) tyX1 tyX1_ok nmX1 hown hC.1 hP hD hS 0 rfl rfl 3 (by decide) (hts (.fieldLink RX1 26 "Triplegarth$Graph" "isClosed" "Z") (by decide +kernel)) (fun _ h9 => h9) rfl (by decide +kernel) rfl rfl (Nat.le_of_ble_eq_true rfl) dX1_put_38 (fun H locs hP hD hS => ?_)
  have hP : va_P D vwCl [(g, .inr (4, [.ref b, .ref po, .int 1, .int 0, .int 0])), (b, .inl (k 0, 768, .inl (upd (fun _ => 0) (nI j).toNatClampNeg (vp_nar .boolean 1))))] H := hP
  have hD : va_D A [(g, .inr (4, [.ref b, .ref po, .int 1, .int 0, .int 0])), (b, .inl (k 0, 768, .inl (upd (fun _ => 0) (nI j).toNatClampNeg (vp_nar .boolean 1))))] := hD
  exact W.vret hx hb hr (fun t ht hW => ⟨⟨(), rfl, trivial, trivial⟩, hS.F ht⟩) hS.2.2 dX1_put_41

set_option maxHeartbeats 4000000 in
set_option maxRecDepth 100000 in
theorem k_Jx4a65c_size_8abf5 (l : Launch) (D : va_G) (k : Nat → ClassId) (h0 : Heap) (q ar : Nat) (mc n : Int32) (hP : va_P D vwCl [(q, .inr (2, [.int mc, .ref ar, .int n]))] h0)  : Met l yJx4a65c_size_8abf5 wsJx4a65c_size_8abf5 ({ frames := 0, cells := 0, slots := 0, locals := 0 }) (pPc D k [.ref q] h0) (va_Qi (fun r (_ : Unit) => r = n) (fun _ t => t.heap = h0) (fun _ => False)) 0 0 (fun _ => False) := by
  refine Met.ofW (cc := cJx4a65c_size_8abf5) (maxL := 1) (ret := (some .int)) (by decide) rfl ?_
  intro p e s m args below meth c s₁ B hml hv
  obtain ⟨rfl, rfl, hC⟩ := hv
  have hx := B.exec
  have hb := B.bytes
  have hr := B.returns
  have hts := atoms_spec (ws := wsJx4a65c_size_8abf5) B.pre
  have hown : s.vm.findClass RJx4a65c = some m.cls := findClass_of_methodNamed B.named
  have hlocks := B.notSynchronized
  have hS : va_S (fun _ => False) s.heap s.heap [] := va_S.rf
  refine w_entry (Nat.le_of_ble_eq_true rfl) (fun ls hl => ?_)
  have hl : lv_has ls 1 [(0, .ref q)] := hl
  refine lv_aload_n hx hb dJx4a65c_size_8abf5_0 rfl (lv_at hl 0 rfl) ?_
  refine va_get (D := D) (ci := 2) (v := .int n) (C := RJx4a65c) (T := TJx4a65c) (N := 3) hx hb hts (by decide +kernel) hown hC.1 hP 0 rfl rfl 2 (by decide) (hts (.fieldLink RJx4a65c 48 "java/util/ArrayList" "size" "I") (by decide +kernel)) (fun _ h9 => h9) rfl dJx4a65c_size_8abf5_1 ?_
  exact W.iret (v := n) hx hb hr (fun t ht hW => ⟨⟨n, (), rfl, rfl, ht⟩, hS.F ht⟩) hS.2.2 dJx4a65c_size_8abf5_4

set_option maxHeartbeats 4000000 in
set_option maxRecDepth 100000 in
theorem k_X1_close (l : Launch) (D : va_G) (k : Nat → ClassId) (e0 : Nat) (sz : Nat) (g b po z ro q : Nat) : Met l yX1_close wsX1_close ({ frames := 2, cells := 0, slots := 0, locals := 46 }) (mPc D k e0 sz [.ref g, .ref q] [(g, .inr (4, [.ref b, .ref po, .int 0, .int 0, .int 0])), (b, .inl (k 0, 768, .inl (fun _ => 0))), (po, .inr (8, [.ref z, .int 1, .ref ro])), (z, .inl (k 1, 768, .inr (.inl (fun _ => 0)))), (q, .inr (2, [.int 0, .ref e0, .int 0]))]) (va_Qv (fun (_ : Unit) => True) (fun _ t => va_P D vwCl [(g, .inr (4, [.ref b, .ref po, .int 0, .int 1, .int 0])), (po, .inr (8, [.ref z, .int 1, .ref ro])), (z, .inl (k 1, 768, .inr (.inl (fun _ => 0))))] t.heap ∧ va_D (va_A [(g, .inr (4, [.ref b, .ref po, .int 0, .int 0, .int 0])), (b, .inl (k 0, 768, .inl (fun _ => 0))), (po, .inr (8, [.ref z, .int 1, .ref ro])), (z, .inl (k 1, 768, .inr (.inl (fun _ => 0)))), (q, .inr (2, [.int 0, .ref e0, .int 0]))] sz) [(g, .inr (4, [.ref b, .ref po, .int 0, .int 1, .int 0])), (po, .inr (8, [.ref z, .int 1, .ref ro])), (z, .inl (k 1, 768, .inr (.inl (fun _ => 0))))]) (va_A [(g, .inr (4, [.ref b, .ref po, .int 0, .int 0, .int 0])), (b, .inl (k 0, 768, .inl (fun _ => 0))), (po, .inr (8, [.ref z, .int 1, .ref ro])), (z, .inl (k 1, 768, .inr (.inl (fun _ => 0)))), (q, .inr (2, [.int 0, .ref e0, .int 0]))] sz)) 0 0 (va_A [(g, .inr (4, [.ref b, .ref po, .int 0, .int 0, .int 0])), (b, .inl (k 0, 768, .inl (fun _ => 0))), (po, .inr (8, [.ref z, .int 1, .ref ro])), (z, .inl (k 1, 768, .inr (.inl (fun _ => 0)))), (q, .inr (2, [.int 0, .ref e0, .int 0]))] sz) := by
  refine Met.ofW (cc := cX1_close) (maxL := 6) (ret := none) (by decide) rfl ?_
  intro p e s m args below meth c s₁ B hml hv
  obtain ⟨rfl, rfl, hP, hC, hD0, hHf⟩ := hv
  have hx := B.exec
  have hb := B.bytes
  have hr := B.returns
  have hts := atoms_spec (ws := wsX1_close) B.pre
  have hown : s.vm.findClass RX1 = some m.cls := findClass_of_methodNamed B.named
  have hlocks := B.notSynchronized
  have hD := hD0.self (sz := s.heap.size)
  generalize hAe : va_A [(g, .inr (4, [.ref b, .ref po, .int 0, .int 0, .int 0])), (b, .inl (k 0, 768, .inl (fun _ => 0))), (po, .inr (8, [.ref z, .int 1, .ref ro])), (z, .inl (k 1, 768, .inr (.inl (fun _ => 0)))), (q, .inr (2, [.int 0, .ref e0, .int 0]))] s.heap.size = A at hD hHf ⊢
  have hA : ∀ q : Nat, s.heap.size ≤ q → A q := fun q h => by rw [← hAe]; exact Or.inr h
  have hS : va_S A s.heap s.heap [] := va_S.rf
  refine w_entry (Nat.le_of_ble_eq_true rfl) (fun ls hl => ?_)
  have hl : lv_has ls 6 [(0, .ref g), (1, .ref q)] := hl
  refine lv_aload_n hx hb dX1_close_0 rfl (lv_at hl 0 rfl) ?_
  refine va_get (D := D) (ci := 4) (v := .int 0) (C := RX1) (T := TX1) (N := 5) hx hb hts (by decide +kernel) hown hC.1 hP 0 rfl rfl 3 (by decide) (hts (.fieldLink RX1 26 "Triplegarth$Graph" "isClosed" "Z") (by decide +kernel)) (fun _ h9 => h9) rfl dX1_close_1 ?_
  refine lv_if_eq (tgt := 8) hx hb dX1_close_4 (by decide) (fun c_4 => ?_) (fun c_4 => absurd (by decide) c_4)
  refine lv_aload_n hx hb dX1_close_8 rfl (lv_at hl 0 rfl) ?_
  refine va_get (D := D) (ci := 4) (v := .ref po) (C := RX1) (T := TX1) (N := 5) hx hb hts (by decide +kernel) hown hC.1 hP 0 rfl rfl 1 (by decide) (hts (.fieldLink RX1 18 "Triplegarth$Graph" "proofs" "LTriplegarth$Proofs;") (by decide +kernel)) (fun _ h9 => h9) rfl dX1_close_9 ?_
  refine lv_aload_n hx hb dX1_close_12 rfl (lv_at hl 0 rfl) ?_
  refine va_get (D := D) (ci := 4) (v := .ref b) (C := RX1) (T := TX1) (N := 5) hx hb hts (by decide +kernel) hown hC.1 hP 0 rfl rfl 0 (by decide) (hts (.fieldLink RX1 9 "Triplegarth$Graph" "there" "[Z") (by decide +kernel)) (fun _ h9 => h9) rfl dX1_close_13 ?_
  have hPc := hP.sub (ws' := [(po, .inr (8, [.ref z, .int 1, .ref ro])), (z, .inl (k 1, 768, .inr (.inl (fun _ => 0)))), (b, .inl (k 0, 768, .inl (fun _ => 0)))]) [2, 3, 1] rfl
  have hDc := hD.sub (ws' := [(po, .inr (8, [.ref z, .int 1, .ref ro])), (z, .inl (k 1, 768, .inr (.inl (fun _ => 0)))), (b, .inl (k 0, 768, .inl (fun _ => 0)))]) [2, 3, 1] (by decide) rfl
  have hFc := va_free (wc := [(po, .inr (8, [.ref z, .int 1, .ref ro])), (z, .inl (k 1, 768, .inr (.inl (fun _ => 0)))), (b, .inl (k 0, 768, .inl (fun _ => 0)))]) hD hS hA [2, 3, 1] rfl
  refine va_callv (va_runV (As := [.ref b]) (rest := []) ⟨hx, hb, hml, hown, hts⟩ (k_X5_begin l D k e0 s.heap.size po z ro b) (cwV 1 hts gX1_close_X5_begin rfl rfl rfl (by decide +kernel) ⟨Nat.le_of_ble_eq_true rfl, Nat.le_of_ble_eq_true rfl⟩) ⟨mPc_fb, va_recv hC.1 hPc (ci := 8) (q0 := 0) rfl rfl, mPc_go hC hHf hS hPc hDc hFc⟩ rfl rfl hl.1 rfl (lv_room (Nat.le_of_ble_eq_true rfl)) dX1_close_16 ⟨Nat.le_of_ble_eq_true rfl, Nat.le_of_ble_eq_true rfl⟩) hS (fun q9 _ h9 => hFc q9 h9) hFc (fun u1 t H locs ht hvm hw_r2 hB hz1 hk1 hS => ?_)
  obtain ⟨hP1, hD1⟩ := hB
  rw [ht] at hP1
  obtain ⟨hP, hD⟩ := va_join (wr := [(g, .inr (4, [.ref b, .ref po, .int 0, .int 0, .int 0])), (q, .inr (2, [.int 0, .ref e0, .int 0]))]) (w1 := [(po, .inr (8, [.ref z, .int 1, .ref ro])), (z, .inl (k 1, 768, .inr (.inl (fun _ => 0))))]) hP hD [2, 3, 1] [0, 4] rfl rfl (by decide) (by decide) hk1 hFc hP1 hD1
  have hP : va_P D vwCl [(g, .inr (4, [.ref b, .ref po, .int 0, .int 0, .int 0])), (q, .inr (2, [.int 0, .ref e0, .int 0])), (po, .inr (8, [.ref z, .int 1, .ref ro])), (z, .inl (k 1, 768, .inr (.inl (fun _ => 0))))] H := hP
  have hD : va_D A [(g, .inr (4, [.ref b, .ref po, .int 0, .int 0, .int 0])), (q, .inr (2, [.int 0, .ref e0, .int 0])), (po, .inr (8, [.ref z, .int 1, .ref ro])), (z, .inl (k 1, 768, .inr (.inl (fun _ => 0))))] := hD
  refine lv_iconst (v := 1) hx hb dX1_close_19 (by decide) ?_
  refine lv_istore_n (lv' := [(2, .int 1), (0, .ref g), (1, .ref q)]) hx hb dX1_close_20 rfl hl (by decide) rfl (fun ls hl => ?_)
  refine lv_iconst (v := 0) hx hb dX1_close_21 (by decide) ?_
  refine lv_istore_n (lv' := [(3, .int 0), (2, .int 1), (0, .ref g), (1, .ref q)]) hx hb dX1_close_22 rfl hl (by decide) rfl (fun ls hl => ?_)
  refine lv_iload_n hx hb dX1_close_23 rfl (lv_at hl 1 rfl) ?_
  refine lv_if_eq (tgt := 98) hx hb dX1_close_24 (by decide) (fun c_24 => absurd c_24 (by decide)) (fun c_24 => ?_)
  refine lv_iload_n hx hb dX1_close_27 rfl (lv_at hl 0 rfl) ?_
  refine lv_sipush (v := 768) hx hb dX1_close_28 (by decide) ?_
  refine lv_icmp_gt (tgt := 98) hx hb dX1_close_31 (by decide) (fun c_31 => absurd c_31 (by decide)) (fun c_31 => ?_)
  refine lv_iconst (v := 0) hx hb dX1_close_34 (by decide) ?_
  refine lv_istore_n (lv' := [(2, .int 0), (3, .int 0), (0, .ref g), (1, .ref q)]) hx hb dX1_close_35 rfl hl (by decide) rfl (fun ls hl => ?_)
  refine lv_iconst (v := 0) hx hb dX1_close_36 (by decide) ?_
  refine lv_istore (lv' := [(4, .int 0), (2, .int 0), (3, .int 0), (0, .ref g), (1, .ref q)]) hx hb dX1_close_37 hl (by decide) rfl (fun ls hl => ?_)
  refine w_loop (N := 768) (fun i locs ls => va_S A s.heap H locs ∧ lv_has ls 6 [(4, .int (nI i)), (2, .int 0), (3, .int 0), (0, .ref g), (1, .ref q)]) ?_ 0 _ _ (Nat.zero_le _) ⟨hS, lv_sub hl [0, 1, 2, 3, 4] rfl⟩
  rintro i locs ls hi ⟨hS, hl⟩ ih
  refine lv_iload hx hb dX1_close_39 (lv_at hl 0 rfl) ?_
  refine lv_sipush (v := 768) hx hb dX1_close_41 (by decide) ?_
  refine lv_icmp_ge (tgt := 92) hx hb dX1_close_44 (by decide) (fun c_44 => ?_) (fun c_44 => ?_)
  · have h9 : 768 ≤ i := by have z := i32_le c_44; rw [show (768 : Int32).toInt = (768 : Int) from rfl, nI_toInt (by omega)] at z; omega
    have hi9 : i = 768 := by omega
    refine lv_iinc (v := 1) (lv' := [(3, .int 1), (4, .int (nI i)), (2, .int 0), (0, .ref g), (1, .ref q)]) hx hb dX1_close_92 hl (k := 2) rfl (by decide) (by decide) rfl (fun ls hl => ?_)
    refine lv_goto (tgt := 23) hx hb dX1_close_95 (by decide) ?_
    refine lv_iload_n hx hb dX1_close_23 rfl (lv_at hl 2 rfl) ?_
    refine lv_if_eq (tgt := 98) hx hb dX1_close_24 (by decide) (fun c_24_1 => ?_) (fun c_24_1 => absurd (by decide) c_24_1)
    refine lv_aload_n hx hb dX1_close_98 rfl (lv_at hl 3 rfl) ?_
    refine lv_iconst (v := 1) hx hb dX1_close_99 (by decide) ?_
    refine va_put (D := D) (ci := 4) (v := .int 1) (ty := .boolean) (C := RX1) (T := TX1) (N := 5) hx hb hts (by decide +kernel) tyX1 tyX1_ok nmX1 hown hC.1 hP hD hS 0 rfl rfl 3 (by decide) (hts (.fieldLink RX1 26 "Triplegarth$Graph" "isClosed" "Z") (by decide +kernel)) (fun _ h9 => h9) rfl (by decide +kernel) rfl rfl (Nat.le_of_ble_eq_true rfl) dX1_close_100 (fun H locs hP hD hS => ?_)
    have hP : va_P D vwCl [(g, .inr (4, [.ref b, .ref po, .int 0, .int 1, .int 0])), (q, .inr (2, [.int 0, .ref e0, .int 0])), (po, .inr (8, [.ref z, .int 1, .ref ro])), (z, .inl (k 1, 768, .inr (.inl (fun _ => 0))))] H := hP
    have hD : va_D A [(g, .inr (4, [.ref b, .ref po, .int 0, .int 1, .int 0])), (q, .inr (2, [.int 0, .ref e0, .int 0])), (po, .inr (8, [.ref z, .int 1, .ref ro])), (z, .inl (k 1, 768, .inr (.inl (fun _ => 0))))] := hD
    exact W.vret hx hb hr (fun t ht hW => ⟨⟨(), rfl, trivial, ⟨by rw [ht]; exact hP.sub [0, 2, 3] rfl, hD.sub [0, 2, 3] (by decide) rfl⟩⟩, hS.F ht⟩) hS.2.2 dX1_close_103
  · have hlt : i < 768 := by have z := i32_nle c_44; rw [show (768 : Int32).toInt = (768 : Int) from rfl, nI_toInt (by omega)] at z; omega
    refine lv_iconst (v := 0) hx hb dX1_close_47 (by decide) ?_
    refine lv_istore (lv' := [(5, .int 0), (4, .int (nI i)), (2, .int 0), (3, .int 0), (0, .ref g), (1, .ref q)]) hx hb dX1_close_48 hl (by decide) rfl (fun ls hl => ?_)
    refine lv_iload hx hb dX1_close_50 (lv_at hl 0 rfl) ?_
    refine lv_aload_n hx hb dX1_close_52 rfl (lv_at hl 5 rfl) ?_
    refine pz_i (va_runV (As := []) (rest := [.int 0]) ⟨hx, hb, hml, hown, hts⟩ (k_Jx4a65c_size_8abf5 l D k H q e0 0 0 (hP.sub [1] rfl)) (cwV 0 hts gX1_close_Jx4a65c_size_8abf5 rfl rfl rfl (by decide +kernel) ⟨Nat.le_of_ble_eq_true rfl, Nat.le_of_ble_eq_true rfl⟩) ⟨pPc_fb, va_recv hC.1 hP (ci := 2) (q0 := 1) rfl rfl, pPc_go hC⟩ rfl rfl hl.1 rfl (lv_room (Nat.le_of_ble_eq_true rfl)) dX1_close_53 ⟨Nat.le_of_ble_eq_true rfl, Nat.le_of_ble_eq_true rfl⟩) hS (fun r4 locs hw_r4 hS => ?_)
    subst hw_r4
    refine lv_icmp_ge (tgt := 86) hx hb dX1_close_56 (by decide) (fun c_56 => ?_) (fun c_56 => absurd (by decide) c_56)
    refine lv_iinc (v := nI (i + 1)) (lv' := [(4, .int (nI (i + 1))), (5, .int 0), (2, .int 0), (3, .int 0), (0, .ref g), (1, .ref q)]) hx hb dX1_close_86 hl (k := 1) rfl (nI_1 i) (by decide) rfl (fun ls hl => ?_)
    refine lv_goto (tgt := 39) hx hb dX1_close_89 (by decide) ?_
    exact ih locs ls hlt ⟨hS, lv_sub hl [0, 2, 3, 4, 5] rfl⟩

set_option maxHeartbeats 4000000 in
set_option maxRecDepth 100000 in
theorem k_Jx4a65c_grow_92f84 (l : Launch) (D : va_G) (k : Nat → ClassId) (e0 : Nat) (sz : Nat) (q : Nat) (mc : Int32) : Met l yJx4a65c_grow_92f84 wsJx4a65c_grow_92f84 ({ frames := 1, cells := 1, slots := 10, locals := 40 }) (mPc D k e0 sz [.ref q, .int 1] [(q, .inr (2, [.int mc, .ref e0, .int 0]))]) (va_Qr (fun (_ : Unit) => True) (fun _ a t => va_P D vwCl [(q, .inr (2, [.int mc, .ref a, .int 0])), (a, .inl (k 4, 10, .inr (.inr (.inr (.inr (fun _ => none))))))] t.heap ∧ va_D (va_A [(q, .inr (2, [.int mc, .ref e0, .int 0]))] sz) [(q, .inr (2, [.int mc, .ref a, .int 0])), (a, .inl (k 4, 10, .inr (.inr (.inr (.inr (fun _ => none))))))]) (va_A [(q, .inr (2, [.int mc, .ref e0, .int 0]))] sz)) 1 10 (va_A [(q, .inr (2, [.int mc, .ref e0, .int 0]))] sz) := by
  refine Met.ofW (cc := cJx4a65c_grow_92f84) (maxL := 4) (ret := (some (.array (.object "java/lang/Object")))) (by decide) rfl ?_
  intro p e s m args below meth c s₁ B hml hv
  obtain ⟨rfl, rfl, hP, hC, hD0, hHf⟩ := hv
  have hx := B.exec
  have hb := B.bytes
  have hr := B.returns
  have hts := atoms_spec (ws := wsJx4a65c_grow_92f84) B.pre
  have hown : s.vm.findClass RJx4a65c = some m.cls := findClass_of_methodNamed B.named
  have hlocks := B.notSynchronized
  have hD := hD0.self (sz := s.heap.size)
  generalize hAe : va_A [(q, .inr (2, [.int mc, .ref e0, .int 0]))] s.heap.size = A at hD hHf ⊢
  have hA : ∀ q : Nat, s.heap.size ≤ q → A q := fun q h => by rw [← hAe]; exact Or.inr h
  have hS : va_S A s.heap s.heap [] := va_S.rf
  refine w_entry (Nat.le_of_ble_eq_true rfl) (fun ls hl => ?_)
  have hl : lv_has ls 4 [(0, .ref q), (1, .int 1)] := hl
  refine lv_aload_n hx hb dJx4a65c_grow_92f84_0 rfl (lv_at hl 0 rfl) ?_
  refine va_get (D := D) (ci := 2) (v := .ref e0) (C := RJx4a65c) (T := TJx4a65c) (N := 3) hx hb hts (by decide +kernel) hown hC.1 hP 0 rfl rfl 1 (by decide) (hts (.fieldLink RJx4a65c 9 "java/util/ArrayList" "elementData" "[Ljava/lang/Object;") (by decide +kernel)) (fun _ h9 => h9) rfl dJx4a65c_grow_92f84_1 ?_
  refine va_tlen hx hb hHf.2.2.2 hS (v := 0) rfl dJx4a65c_grow_92f84_4 ?_
  refine lv_istore_n (lv' := [(2, .int 0), (0, .ref q), (1, .int 1)]) hx hb dJx4a65c_grow_92f84_5 rfl hl (by decide) rfl (fun ls hl => ?_)
  refine lv_iload_n hx hb dJx4a65c_grow_92f84_6 rfl (lv_at hl 0 rfl) ?_
  refine lv_if_gt (tgt := 20) hx hb dJx4a65c_grow_92f84_7 (by decide) (fun c_7 => absurd c_7 (by decide)) (fun c_7 => ?_)
  refine lv_aload_n hx hb dJx4a65c_grow_92f84_10 rfl (lv_at hl 1 rfl) ?_
  refine va_get (D := D) (ci := 2) (v := .ref e0) (C := RJx4a65c) (T := TJx4a65c) (N := 3) hx hb hts (by decide +kernel) hown hC.1 hP 0 rfl rfl 1 (by decide) (hts (.fieldLink RJx4a65c 9 "java/util/ArrayList" "elementData" "[Ljava/lang/Object;") (by decide +kernel)) (fun _ h9 => h9) rfl dJx4a65c_grow_92f84_11 ?_
  refine va_gets hx hb hHf.2.2.1 hS hown (hts (.fieldLink RJx4a65c 39 "java/util/ArrayList" "DEFAULTCAPACITY_EMPTY_ELEMENTDATA" "[Ljava/lang/Object;") (by decide +kernel)) (fun _ h9 => h9) dJx4a65c_grow_92f84_14 ?_
  refine lv_acmp_eq (rx := some e0) (ry := some e0) (tgt := 45) hx hb dJx4a65c_grow_92f84_17 (by decide) (fun c9 => ?_) (fun c9 => absurd rfl c9)
  refine lv_aload_n hx hb dJx4a65c_grow_92f84_45 rfl (lv_at hl 1 rfl) ?_
  refine lv_bipush (v := 10) hx hb dJx4a65c_grow_92f84_46 (by decide) ?_
  refine lv_iload_n hx hb dJx4a65c_grow_92f84_48 rfl (lv_at hl 2 rfl) ?_
  refine va_mmax hx hb (hml.trans hl.1.symm) hown (hts (.methodLink RJx4a65c 79 Lib.Math.max.name) (by decide +kernel)) (hts (.static Lib.Math.max.name) (by decide +kernel)) (hts (.initialized "java/lang/Math") (by decide +kernel)) (hts (.code Lib.Math.max.name Lib.Math.max.code 2 (some .int)) (by decide +kernel)) (Nat.le_of_ble_eq_true rfl) (Nat.le_of_ble_eq_true rfl) (Nat.le_of_ble_eq_true rfl) (Nat.le_of_ble_eq_true rfl) dJx4a65c_grow_92f84_49 ?_
  refine w_top (y := 10) (by decide) ?_
  refine w_newq hx hb 4 rfl hown (hts (.classLink RJx4a65c 7 "java/lang/Object") (by decide +kernel)) hC.2.2.1.2.1 hC.1 hP hD hS hA (N' := 10) (by decide) (by decide) (Nat.le_of_ble_eq_true rfl) (Nat.le_of_ble_eq_true rfl) (Nat.le_of_ble_eq_true rfl) dJx4a65c_grow_92f84_52 (fun q52 H hP hD hS => ?_)
  have hP : va_P D vwCl [(q, .inr (2, [.int mc, .ref e0, .int 0])), (q52, .inl (k 4, 10, .inr (.inr (.inr (.inr (fun _ => none))))))] H := hP
  have hD : va_D A [(q, .inr (2, [.int mc, .ref e0, .int 0])), (q52, .inl (k 4, 10, .inr (.inr (.inr (.inr (fun _ => none))))))] := hD
  refine lv_dup_x1 hx hb dJx4a65c_grow_92f84_55 rfl rfl ?_
  refine va_put (D := D) (ci := 2) (v := .ref q52) (ty := .array (.object "java/lang/Object")) (C := RJx4a65c) (T := TJx4a65c) (N := 3) hx hb hts (by decide +kernel) tyJx4a65c tyJx4a65c_ok nmJx4a65c hown hC.1 hP hD hS 0 rfl rfl 1 (by decide) (hts (.fieldLink RJx4a65c 9 "java/util/ArrayList" "elementData" "[Ljava/lang/Object;") (by decide +kernel)) (fun _ h9 => h9) rfl (by decide +kernel) rfl rfl (Nat.le_of_ble_eq_true rfl) dJx4a65c_grow_92f84_56 (fun H locs hP hD hS => ?_)
  have hP : va_P D vwCl [(q, .inr (2, [.int mc, .ref q52, .int 0])), (q52, .inl (k 4, 10, .inr (.inr (.inr (.inr (fun _ => none))))))] H := hP
  have hD : va_D A [(q, .inr (2, [.int mc, .ref q52, .int 0])), (q52, .inl (k 4, 10, .inr (.inr (.inr (.inr (fun _ => none))))))] := hD
  exact W.aret (v := .ref q52) hx hb hr (Or.inr ⟨_, rfl⟩) (Or.inr ⟨_, rfl⟩) (fun t ht hW => ⟨⟨(), q52, rfl, trivial, ⟨by rw [ht]; exact hP.sub [0, 1] rfl, hD.sub [0, 1] (by decide) rfl⟩⟩, hS.F ht⟩) hS.2.2 dJx4a65c_grow_92f84_59

set_option maxHeartbeats 4000000 in
set_option maxRecDepth 100000 in
theorem k_Jx4a65c_grow_d5877 (l : Launch) (D : va_G) (k : Nat → ClassId) (e0 : Nat) (sz : Nat) (q : Nat) (mc : Int32) : Met l yJx4a65c_grow_d5877 wsJx4a65c_grow_d5877 ({ frames := 2, cells := 1, slots := 10, locals := 63 }) (mPc D k e0 sz [.ref q] [(q, .inr (2, [.int mc, .ref e0, .int 0]))]) (va_Qr (fun (_ : Unit) => True) (fun _ a t => va_P D vwCl [(q, .inr (2, [.int mc, .ref a, .int 0])), (a, .inl (k 4, 10, .inr (.inr (.inr (.inr (fun _ => none))))))] t.heap ∧ va_D (va_A [(q, .inr (2, [.int mc, .ref e0, .int 0]))] sz) [(q, .inr (2, [.int mc, .ref a, .int 0])), (a, .inl (k 4, 10, .inr (.inr (.inr (.inr (fun _ => none))))))]) (va_A [(q, .inr (2, [.int mc, .ref e0, .int 0]))] sz)) 1 10 (va_A [(q, .inr (2, [.int mc, .ref e0, .int 0]))] sz) := by
  refine Met.ofW (cc := cJx4a65c_grow_d5877) (maxL := 1) (ret := (some (.array (.object "java/lang/Object")))) (by decide) rfl ?_
  intro p e s m args below meth c s₁ B hml hv
  obtain ⟨rfl, rfl, hP, hC, hD0, hHf⟩ := hv
  have hx := B.exec
  have hb := B.bytes
  have hr := B.returns
  have hts := atoms_spec (ws := wsJx4a65c_grow_d5877) B.pre
  have hown : s.vm.findClass RJx4a65c = some m.cls := findClass_of_methodNamed B.named
  have hlocks := B.notSynchronized
  have hD := hD0.self (sz := s.heap.size)
  generalize hAe : va_A [(q, .inr (2, [.int mc, .ref e0, .int 0]))] s.heap.size = A at hD hHf ⊢
  have hA : ∀ q : Nat, s.heap.size ≤ q → A q := fun q h => by rw [← hAe]; exact Or.inr h
  have hS : va_S A s.heap s.heap [] := va_S.rf
  refine w_entry (Nat.le_of_ble_eq_true rfl) (fun ls hl => ?_)
  have hl : lv_has ls 1 [(0, .ref q)] := hl
  refine lv_aload_n hx hb dJx4a65c_grow_d5877_0 rfl (lv_at hl 0 rfl) ?_
  refine lv_aload_n hx hb dJx4a65c_grow_d5877_1 rfl (lv_at hl 0 rfl) ?_
  refine va_get (D := D) (ci := 2) (v := .int 0) (C := RJx4a65c) (T := TJx4a65c) (N := 3) hx hb hts (by decide +kernel) hown hC.1 hP 0 rfl rfl 2 (by decide) (hts (.fieldLink RJx4a65c 48 "java/util/ArrayList" "size" "I") (by decide +kernel)) (fun _ h9 => h9) rfl dJx4a65c_grow_d5877_2 ?_
  refine lv_iconst (v := 1) hx hb dJx4a65c_grow_d5877_5 (by decide) ?_
  refine lv_iadd hx hb dJx4a65c_grow_d5877_6 ?_
  refine w_top (y := 1) (by decide) ?_
  have hPc := hP.sub (ws' := [(q, .inr (2, [.int mc, .ref e0, .int 0]))]) [0] rfl
  have hDc := hD.sub (ws' := [(q, .inr (2, [.int mc, .ref e0, .int 0]))]) [0] (by decide) rfl
  have hFc := va_free (wc := [(q, .inr (2, [.int mc, .ref e0, .int 0]))]) hD hS hA [0] rfl
  refine va_callr (va_runV (As := [.int 1]) (rest := []) ⟨hx, hb, hml, hown, hts⟩ (k_Jx4a65c_grow_92f84 l D k e0 s.heap.size q mc) (cwV 1 hts gJx4a65c_grow_d5877_Jx4a65c_grow_92f84 rfl rfl rfl (by decide +kernel) ⟨Nat.le_of_ble_eq_true rfl, Nat.le_of_ble_eq_true rfl⟩) ⟨mPc_fb, va_recv hC.1 hPc (ci := 2) (q0 := 0) rfl rfl, mPc_go hC hHf hS hPc hDc hFc⟩ rfl rfl hl.1 rfl (lv_room (Nat.le_of_ble_eq_true rfl)) dJx4a65c_grow_d5877_7 ⟨Nat.le_of_ble_eq_true rfl, Nat.le_of_ble_eq_true rfl⟩) hS (fun q9 _ h9 => hFc q9 h9) hFc (fun u1 q3 t H locs ht hvm hw_r2 hB hz1 hk1 hS => ?_)
  obtain ⟨hP1, hD1⟩ := hB
  rw [ht] at hP1
  obtain ⟨hP, hD⟩ := va_join (wr := []) (w1 := [(q, .inr (2, [.int mc, .ref q3, .int 0])), (q3, .inl (k 4, 10, .inr (.inr (.inr (.inr (fun _ => none))))))]) hP hD [0] [] rfl rfl (by decide) (by decide) hk1 hFc hP1 hD1
  have hP : va_P D vwCl [(q, .inr (2, [.int mc, .ref q3, .int 0])), (q3, .inl (k 4, 10, .inr (.inr (.inr (.inr (fun _ => none))))))] H := hP
  have hD : va_D A [(q, .inr (2, [.int mc, .ref q3, .int 0])), (q3, .inl (k 4, 10, .inr (.inr (.inr (.inr (fun _ => none))))))] := hD
  exact W.aret (v := .ref q3) hx hb hr (Or.inr ⟨_, rfl⟩) (Or.inr ⟨_, rfl⟩) (fun t ht hW => ⟨⟨(), q3, rfl, trivial, ⟨by rw [ht]; exact hP.sub [0, 1] rfl, hD.sub [0, 1] (by decide) rfl⟩⟩, hS.F ht⟩) hS.2.2 dJx4a65c_grow_d5877_10

set_option maxHeartbeats 4000000 in
set_option maxRecDepth 100000 in
theorem k_Jx4a65c_add_72be8 (l : Launch) (D : va_G) (k : Nat → ClassId) (e0 : Nat) (sz : Nat) (rC : vw_C) (ci : Nat) (vs : List Value) (hci : vwCl[ci]? = some rC) (q v : Nat) (mc : Int32) (hcx : ∀ U : State, wCx D k U → va_Nw (.castable rC.1 "java/lang/Object") U) : Met l yJx4a65c_add_72be8 wsJx4a65c_add_72be8 ({ frames := 3, cells := 1, slots := 10, locals := 83 }) (mPc D k e0 sz [.ref q, .ref v, .ref e0, .int 0] [(q, .inr (2, [.int mc, .ref e0, .int 0])), (v, .inr (ci, vs))]) (va_Qv (fun (u : Nat) => True) (fun u t => va_P D vwCl [(q, .inr (2, [.int mc, .ref u, .int 1]))] t.heap ∧ va_D (va_A [(q, .inr (2, [.int mc, .ref e0, .int 0])), (v, .inr (ci, vs))] sz) [(q, .inr (2, [.int mc, .ref u, .int 1]))]) (va_A [(q, .inr (2, [.int mc, .ref e0, .int 0])), (v, .inr (ci, vs))] sz)) 1 10 (va_A [(q, .inr (2, [.int mc, .ref e0, .int 0])), (v, .inr (ci, vs))] sz) := by
  refine Met.ofW (cc := cJx4a65c_add_72be8) (maxL := 4) (ret := none) (by decide) rfl ?_
  intro p e s m args below meth c s₁ B hml hv
  obtain ⟨rfl, rfl, hP, hC, hD0, hHf⟩ := hv
  have hx := B.exec
  have hb := B.bytes
  have hr := B.returns
  have hts := atoms_spec (ws := wsJx4a65c_add_72be8) B.pre
  have hown : s.vm.findClass RJx4a65c = some m.cls := findClass_of_methodNamed B.named
  have hlocks := B.notSynchronized
  have hD := hD0.self (sz := s.heap.size)
  generalize hAe : va_A [(q, .inr (2, [.int mc, .ref e0, .int 0])), (v, .inr (ci, vs))] s.heap.size = A at hD hHf ⊢
  have hA : ∀ q : Nat, s.heap.size ≤ q → A q := fun q h => by rw [← hAe]; exact Or.inr h
  have hS : va_S A s.heap s.heap [] := va_S.rf
  have hca := hcx s hC
  refine w_entry (Nat.le_of_ble_eq_true rfl) (fun ls hl => ?_)
  have hl : lv_has ls 4 [(0, .ref q), (1, .ref v), (2, .ref e0), (3, .int 0)] := hl
  refine lv_iload_n hx hb dJx4a65c_add_72be8_0 rfl (lv_at hl 3 rfl) ?_
  refine lv_aload_n hx hb dJx4a65c_add_72be8_1 rfl (lv_at hl 2 rfl) ?_
  refine va_tlen hx hb hHf.2.2.2 hS (v := 0) rfl dJx4a65c_add_72be8_2 ?_
  refine lv_icmp_ne (tgt := 11) hx hb dJx4a65c_add_72be8_3 (by decide) (fun c_3 => absurd c_3 (by decide)) (fun c_3 => ?_)
  refine lv_aload_n hx hb dJx4a65c_add_72be8_6 rfl (lv_at hl 0 rfl) ?_
  have hPc := hP.sub (ws' := [(q, .inr (2, [.int mc, .ref e0, .int 0]))]) [0] rfl
  have hDc := hD.sub (ws' := [(q, .inr (2, [.int mc, .ref e0, .int 0]))]) [0] (by decide) rfl
  have hFc := va_free (wc := [(q, .inr (2, [.int mc, .ref e0, .int 0]))]) hD hS hA [0] rfl
  refine va_callr (va_runV (As := []) (rest := []) ⟨hx, hb, hml, hown, hts⟩ (k_Jx4a65c_grow_d5877 l D k e0 s.heap.size q mc) (cwV 0 hts gJx4a65c_add_72be8_Jx4a65c_grow_d5877 rfl rfl rfl (by decide +kernel) ⟨Nat.le_of_ble_eq_true rfl, Nat.le_of_ble_eq_true rfl⟩) ⟨mPc_fb, va_recv hC.1 hPc (ci := 2) (q0 := 0) rfl rfl, mPc_go hC hHf hS hPc hDc hFc⟩ rfl rfl hl.1 rfl (lv_room (Nat.le_of_ble_eq_true rfl)) dJx4a65c_add_72be8_7 ⟨Nat.le_of_ble_eq_true rfl, Nat.le_of_ble_eq_true rfl⟩) hS (fun q9 _ h9 => hFc q9 h9) hFc (fun u1 q3 t H locs ht hvm hw_r2 hB hz1 hk1 hS => ?_)
  obtain ⟨hP1, hD1⟩ := hB
  rw [ht] at hP1
  obtain ⟨hP, hD⟩ := va_join (wr := [(v, .inr (ci, vs))]) (w1 := [(q, .inr (2, [.int mc, .ref q3, .int 0])), (q3, .inl (k 4, 10, .inr (.inr (.inr (.inr (fun _ => none))))))]) hP hD [0] [1] rfl rfl (by decide) (by decide) hk1 hFc hP1 hD1
  have hP : va_P D vwCl [(v, .inr (ci, vs)), (q, .inr (2, [.int mc, .ref q3, .int 0])), (q3, .inl (k 4, 10, .inr (.inr (.inr (.inr (fun _ => none))))))] H := hP
  have hD : va_D A [(v, .inr (ci, vs)), (q, .inr (2, [.int mc, .ref q3, .int 0])), (q3, .inl (k 4, 10, .inr (.inr (.inr (.inr (fun _ => none))))))] := hD
  refine lv_astore_n (lv' := [(2, .ref q3), (0, .ref q), (1, .ref v), (3, .int 0)]) hx hb dJx4a65c_add_72be8_10 rfl hl (by decide) rfl (fun ls hl => ?_)
  refine lv_aload_n hx hb dJx4a65c_add_72be8_11 rfl (lv_at hl 0 rfl) ?_
  refine lv_iload_n hx hb dJx4a65c_add_72be8_12 rfl (lv_at hl 3 rfl) ?_
  refine lv_aload_n hx hb dJx4a65c_add_72be8_13 rfl (lv_at hl 2 rfl) ?_
  refine va_astqO hx hb hC.1 hP hD hS 2 4 0 ci (r := rC) rfl rfl hca rfl hci (vp_in_nI (n := 0) (N := 10) (by decide) (by decide)) dJx4a65c_add_72be8_14 (fun H locs hP hD hS => ?_)
  have hP : va_P D vwCl [(v, .inr (ci, vs)), (q, .inr (2, [.int mc, .ref q3, .int 0])), (q3, .inl (k 4, 10, .inr (.inr (.inr (.inr (va_up (fun _ => none) (0 : Int32).toNatClampNeg (some v)))))))] H := hP
  have hD : va_D A [(v, .inr (ci, vs)), (q, .inr (2, [.int mc, .ref q3, .int 0])), (q3, .inl (k 4, 10, .inr (.inr (.inr (.inr (va_up (fun _ => none) (0 : Int32).toNatClampNeg (some v)))))))] := hD
  refine lv_aload_n hx hb dJx4a65c_add_72be8_15 rfl (lv_at hl 1 rfl) ?_
  refine lv_iload_n hx hb dJx4a65c_add_72be8_16 rfl (lv_at hl 3 rfl) ?_
  refine lv_iconst (v := 1) hx hb dJx4a65c_add_72be8_17 (by decide) ?_
  refine lv_iadd hx hb dJx4a65c_add_72be8_18 ?_
  refine w_top (y := 1) (by decide) ?_
  refine va_put (D := D) (ci := 2) (v := .int 1) (ty := .int) (C := RJx4a65c) (T := TJx4a65c) (N := 3) hx hb hts (by decide +kernel) tyJx4a65c tyJx4a65c_ok nmJx4a65c hown hC.1 hP hD hS 1 rfl rfl 2 (by decide) (hts (.fieldLink RJx4a65c 48 "java/util/ArrayList" "size" "I") (by decide +kernel)) (fun _ h9 => h9) rfl (by decide +kernel) rfl rfl (Nat.le_of_ble_eq_true rfl) dJx4a65c_add_72be8_19 (fun H locs hP hD hS => ?_)
  have hP : va_P D vwCl [(v, .inr (ci, vs)), (q, .inr (2, [.int mc, .ref q3, .int 1])), (q3, .inl (k 4, 10, .inr (.inr (.inr (.inr (va_up (fun _ => none) (0 : Int32).toNatClampNeg (some v)))))))] H := hP
  have hD : va_D A [(v, .inr (ci, vs)), (q, .inr (2, [.int mc, .ref q3, .int 1])), (q3, .inl (k 4, 10, .inr (.inr (.inr (.inr (va_up (fun _ => none) (0 : Int32).toNatClampNeg (some v)))))))] := hD
  exact W.vret hx hb hr (fun t ht hW => ⟨⟨q3, rfl, trivial, ⟨by rw [ht]; exact hP.sub [1] rfl, hD.sub [1] (by decide) rfl⟩⟩, hS.F ht⟩) hS.2.2 dJx4a65c_add_72be8_22

set_option maxHeartbeats 4000000 in
set_option maxRecDepth 100000 in
theorem k_Jx4a65c_add_9ea2d (l : Launch) (D : va_G) (k : Nat → ClassId) (e0 : Nat) (sz : Nat) (rC : vw_C) (ci : Nat) (vs : List Value) (hci : vwCl[ci]? = some rC) (q v : Nat) (hcx : ∀ U : State, wCx D k U → va_Nw (.castable rC.1 "java/lang/Object") U) : Met l yJx4a65c_add_9ea2d wsJx4a65c_add_9ea2d ({ frames := 4, cells := 1, slots := 10, locals := 106 }) (mPc D k e0 sz [.ref q, .ref v] [(q, .inr (2, [.int 0, .ref e0, .int 0])), (v, .inr (ci, vs))]) (va_Qi (fun r (u : Nat) => r = 1) (fun u t => va_P D vwCl [(q, .inr (2, [.int 1, .ref u, .int 1]))] t.heap ∧ va_D (va_A [(q, .inr (2, [.int 0, .ref e0, .int 0])), (v, .inr (ci, vs))] sz) [(q, .inr (2, [.int 1, .ref u, .int 1]))]) (va_A [(q, .inr (2, [.int 0, .ref e0, .int 0])), (v, .inr (ci, vs))] sz)) 1 10 (va_A [(q, .inr (2, [.int 0, .ref e0, .int 0])), (v, .inr (ci, vs))] sz) := by
  refine Met.ofW (cc := cJx4a65c_add_9ea2d) (maxL := 2) (ret := (some .boolean)) (by decide) rfl ?_
  intro p e s m args below meth c s₁ B hml hv
  obtain ⟨rfl, rfl, hP, hC, hD0, hHf⟩ := hv
  have hx := B.exec
  have hb := B.bytes
  have hr := B.returns
  have hts := atoms_spec (ws := wsJx4a65c_add_9ea2d) B.pre
  have hown : s.vm.findClass RJx4a65c = some m.cls := findClass_of_methodNamed B.named
  have hlocks := B.notSynchronized
  have hD := hD0.self (sz := s.heap.size)
  generalize hAe : va_A [(q, .inr (2, [.int 0, .ref e0, .int 0])), (v, .inr (ci, vs))] s.heap.size = A at hD hHf ⊢
  have hA : ∀ q : Nat, s.heap.size ≤ q → A q := fun q h => by rw [← hAe]; exact Or.inr h
  have hS : va_S A s.heap s.heap [] := va_S.rf
  refine w_entry (Nat.le_of_ble_eq_true rfl) (fun ls hl => ?_)
  have hl : lv_has ls 2 [(0, .ref q), (1, .ref v)] := hl
  refine lv_aload_n hx hb dJx4a65c_add_9ea2d_0 rfl (lv_at hl 0 rfl) ?_
  refine lv_dup hx hb dJx4a65c_add_9ea2d_1 rfl ?_
  refine va_get (D := D) (ci := 2) (v := .int 0) (C := RJx4a65c) (T := TJx4a65c) (N := 3) hx hb hts (by decide +kernel) hown hC.1 hP 0 rfl rfl 0 (by decide) (hts (.fieldLink RJx4a65c 63 "java/util/ArrayList" "modCount" "I") (by decide +kernel)) (fun x9 h9 => u_same (hts (.sameField "java/util/ArrayList" "java/util/AbstractList" "modCount" "I") (by decide +kernel)) x9 h9) rfl dJx4a65c_add_9ea2d_2 ?_
  refine lv_iconst (v := 1) hx hb dJx4a65c_add_9ea2d_5 (by decide) ?_
  refine lv_iadd hx hb dJx4a65c_add_9ea2d_6 ?_
  refine w_top (y := 1) (by decide) ?_
  refine va_put (D := D) (ci := 2) (v := .int 1) (ty := .int) (C := RJx4a65c) (T := TJx4a65c) (N := 3) hx hb hts (by decide +kernel) tyJx4a65c tyJx4a65c_ok nmJx4a65c hown hC.1 hP hD hS 0 rfl rfl 0 (by decide) (hts (.fieldLink RJx4a65c 63 "java/util/ArrayList" "modCount" "I") (by decide +kernel)) (fun x9 h9 => u_same (hts (.sameField "java/util/ArrayList" "java/util/AbstractList" "modCount" "I") (by decide +kernel)) x9 h9) rfl (by decide +kernel) rfl rfl (Nat.le_of_ble_eq_true rfl) dJx4a65c_add_9ea2d_7 (fun H locs hP hD hS => ?_)
  have hP : va_P D vwCl [(q, .inr (2, [.int 1, .ref e0, .int 0])), (v, .inr (ci, vs))] H := hP
  have hD : va_D A [(q, .inr (2, [.int 1, .ref e0, .int 0])), (v, .inr (ci, vs))] := hD
  refine lv_aload_n hx hb dJx4a65c_add_9ea2d_10 rfl (lv_at hl 0 rfl) ?_
  refine lv_aload_n hx hb dJx4a65c_add_9ea2d_11 rfl (lv_at hl 1 rfl) ?_
  refine lv_aload_n hx hb dJx4a65c_add_9ea2d_12 rfl (lv_at hl 0 rfl) ?_
  refine va_get (D := D) (ci := 2) (v := .ref e0) (C := RJx4a65c) (T := TJx4a65c) (N := 3) hx hb hts (by decide +kernel) hown hC.1 hP 0 rfl rfl 1 (by decide) (hts (.fieldLink RJx4a65c 9 "java/util/ArrayList" "elementData" "[Ljava/lang/Object;") (by decide +kernel)) (fun _ h9 => h9) rfl dJx4a65c_add_9ea2d_13 ?_
  refine lv_aload_n hx hb dJx4a65c_add_9ea2d_16 rfl (lv_at hl 0 rfl) ?_
  refine va_get (D := D) (ci := 2) (v := .int 0) (C := RJx4a65c) (T := TJx4a65c) (N := 3) hx hb hts (by decide +kernel) hown hC.1 hP 0 rfl rfl 2 (by decide) (hts (.fieldLink RJx4a65c 48 "java/util/ArrayList" "size" "I") (by decide +kernel)) (fun _ h9 => h9) rfl dJx4a65c_add_9ea2d_17 ?_
  have hPc := hP.sub (ws' := [(q, .inr (2, [.int 1, .ref e0, .int 0])), (v, .inr (ci, vs))]) [0, 1] rfl
  have hDc := hD.sub (ws' := [(q, .inr (2, [.int 1, .ref e0, .int 0])), (v, .inr (ci, vs))]) [0, 1] (by decide) rfl
  have hFc := va_free (wc := [(q, .inr (2, [.int 1, .ref e0, .int 0])), (v, .inr (ci, vs))]) hD hS hA [0, 1] rfl
  refine va_callv (va_runV (As := [.ref v, .ref e0, .int 0]) (rest := []) ⟨hx, hb, hml, hown, hts⟩ (k_Jx4a65c_add_72be8 l D k e0 H.size rC ci vs hci q v 1 hcx) (cwV 3 hts gJx4a65c_add_9ea2d_Jx4a65c_add_72be8 rfl rfl rfl (by decide +kernel) ⟨Nat.le_of_ble_eq_true rfl, Nat.le_of_ble_eq_true rfl⟩) ⟨mPc_fb, va_recv hC.1 hPc (ci := 2) (q0 := 0) rfl rfl, mPc_go hC hHf hS hPc hDc hFc⟩ rfl rfl hl.1 rfl (lv_room (Nat.le_of_ble_eq_true rfl)) dJx4a65c_add_9ea2d_20 ⟨Nat.le_of_ble_eq_true rfl, Nat.le_of_ble_eq_true rfl⟩) hS (fun q9 _ h9 => hFc q9 h9) hFc (fun u1 t H locs ht hvm hw_r2 hB hz1 hk1 hS => ?_)
  obtain ⟨hP1, hD1⟩ := hB
  rw [ht] at hP1
  obtain ⟨hP, hD⟩ := va_join (wr := []) (w1 := [(q, .inr (2, [.int 1, .ref u1, .int 1]))]) hP hD [0, 1] [] rfl rfl (by decide) (by decide) hk1 hFc hP1 hD1
  have hP : va_P D vwCl [(q, .inr (2, [.int 1, .ref u1, .int 1]))] H := hP
  have hD : va_D A [(q, .inr (2, [.int 1, .ref u1, .int 1]))] := hD
  refine lv_iconst (v := 1) hx hb dJx4a65c_add_9ea2d_23 (by decide) ?_
  exact W.zret (v := 1) (ty := .boolean) hx hb hr (rfl) (fun t ht hW => ⟨⟨1, u1, rfl, rfl, ⟨by rw [ht]; exact hP.sub [0] rfl, hD.sub [0] (by decide) rfl⟩⟩, hS.F ht⟩) hS.2.2 dJx4a65c_add_9ea2d_24

set_option maxHeartbeats 4000000 in
set_option maxRecDepth 100000 in
theorem k_Jx4a65c_clear_da8c8 (l : Launch) (D : va_G) (k : Nat → ClassId) (e0 : Nat) (sz : Nat) (q : Nat) : Met l yJx4a65c_clear_da8c8 wsJx4a65c_clear_da8c8 ({ frames := 0, cells := 0, slots := 0, locals := 0 }) (mPc D k e0 sz [.ref q] [(q, .inr (2, [.int 0, .ref e0, .int 0]))]) (va_Qv (fun (_ : Unit) => True) (fun _ t => True) (va_A [(q, .inr (2, [.int 0, .ref e0, .int 0]))] sz)) 0 0 (va_A [(q, .inr (2, [.int 0, .ref e0, .int 0]))] sz) := by
  refine Met.ofW (cc := cJx4a65c_clear_da8c8) (maxL := 4) (ret := none) (by decide) rfl ?_
  intro p e s m args below meth c s₁ B hml hv
  obtain ⟨rfl, rfl, hP, hC, hD0, hHf⟩ := hv
  have hx := B.exec
  have hb := B.bytes
  have hr := B.returns
  have hts := atoms_spec (ws := wsJx4a65c_clear_da8c8) B.pre
  have hown : s.vm.findClass RJx4a65c = some m.cls := findClass_of_methodNamed B.named
  have hlocks := B.notSynchronized
  have hD := hD0.self (sz := s.heap.size)
  generalize hAe : va_A [(q, .inr (2, [.int 0, .ref e0, .int 0]))] s.heap.size = A at hD hHf ⊢
  have hA : ∀ q : Nat, s.heap.size ≤ q → A q := fun q h => by rw [← hAe]; exact Or.inr h
  have hS : va_S A s.heap s.heap [] := va_S.rf
  refine w_entry (Nat.le_of_ble_eq_true rfl) (fun ls hl => ?_)
  have hl : lv_has ls 4 [(0, .ref q)] := hl
  refine lv_aload_n hx hb dJx4a65c_clear_da8c8_0 rfl (lv_at hl 0 rfl) ?_
  refine lv_dup hx hb dJx4a65c_clear_da8c8_1 rfl ?_
  refine va_get (D := D) (ci := 2) (v := .int 0) (C := RJx4a65c) (T := TJx4a65c) (N := 3) hx hb hts (by decide +kernel) hown hC.1 hP 0 rfl rfl 0 (by decide) (hts (.fieldLink RJx4a65c 63 "java/util/ArrayList" "modCount" "I") (by decide +kernel)) (fun x9 h9 => u_same (hts (.sameField "java/util/ArrayList" "java/util/AbstractList" "modCount" "I") (by decide +kernel)) x9 h9) rfl dJx4a65c_clear_da8c8_2 ?_
  refine lv_iconst (v := 1) hx hb dJx4a65c_clear_da8c8_5 (by decide) ?_
  refine lv_iadd hx hb dJx4a65c_clear_da8c8_6 ?_
  refine w_top (y := 1) (by decide) ?_
  refine va_put (D := D) (ci := 2) (v := .int 1) (ty := .int) (C := RJx4a65c) (T := TJx4a65c) (N := 3) hx hb hts (by decide +kernel) tyJx4a65c tyJx4a65c_ok nmJx4a65c hown hC.1 hP hD hS 0 rfl rfl 0 (by decide) (hts (.fieldLink RJx4a65c 63 "java/util/ArrayList" "modCount" "I") (by decide +kernel)) (fun x9 h9 => u_same (hts (.sameField "java/util/ArrayList" "java/util/AbstractList" "modCount" "I") (by decide +kernel)) x9 h9) rfl (by decide +kernel) rfl rfl (Nat.le_of_ble_eq_true rfl) dJx4a65c_clear_da8c8_7 (fun H locs hP hD hS => ?_)
  have hP : va_P D vwCl [(q, .inr (2, [.int 1, .ref e0, .int 0]))] H := hP
  have hD : va_D A [(q, .inr (2, [.int 1, .ref e0, .int 0]))] := hD
  refine lv_aload_n hx hb dJx4a65c_clear_da8c8_10 rfl (lv_at hl 0 rfl) ?_
  refine va_get (D := D) (ci := 2) (v := .ref e0) (C := RJx4a65c) (T := TJx4a65c) (N := 3) hx hb hts (by decide +kernel) hown hC.1 hP 0 rfl rfl 1 (by decide) (hts (.fieldLink RJx4a65c 9 "java/util/ArrayList" "elementData" "[Ljava/lang/Object;") (by decide +kernel)) (fun _ h9 => h9) rfl dJx4a65c_clear_da8c8_11 ?_
  refine lv_astore_n (lv' := [(1, .ref e0), (0, .ref q)]) hx hb dJx4a65c_clear_da8c8_14 rfl hl (by decide) rfl (fun ls hl => ?_)
  refine lv_aload_n hx hb dJx4a65c_clear_da8c8_15 rfl (lv_at hl 1 rfl) ?_
  refine va_get (D := D) (ci := 2) (v := .int 0) (C := RJx4a65c) (T := TJx4a65c) (N := 3) hx hb hts (by decide +kernel) hown hC.1 hP 0 rfl rfl 2 (by decide) (hts (.fieldLink RJx4a65c 48 "java/util/ArrayList" "size" "I") (by decide +kernel)) (fun _ h9 => h9) rfl dJx4a65c_clear_da8c8_16 ?_
  refine lv_istore_n (lv' := [(2, .int 0), (1, .ref e0), (0, .ref q)]) hx hb dJx4a65c_clear_da8c8_19 rfl hl (by decide) rfl (fun ls hl => ?_)
  refine lv_aload_n hx hb dJx4a65c_clear_da8c8_20 rfl (lv_at hl 2 rfl) ?_
  refine lv_iconst (v := 0) hx hb dJx4a65c_clear_da8c8_21 (by decide) ?_
  refine lv_dup_x1 hx hb dJx4a65c_clear_da8c8_22 rfl rfl ?_
  refine va_put (D := D) (ci := 2) (v := .int 0) (ty := .int) (C := RJx4a65c) (T := TJx4a65c) (N := 3) hx hb hts (by decide +kernel) tyJx4a65c tyJx4a65c_ok nmJx4a65c hown hC.1 hP hD hS 0 rfl rfl 2 (by decide) (hts (.fieldLink RJx4a65c 48 "java/util/ArrayList" "size" "I") (by decide +kernel)) (fun _ h9 => h9) rfl (by decide +kernel) rfl rfl (Nat.le_of_ble_eq_true rfl) dJx4a65c_clear_da8c8_23 (fun H locs hP hD hS => ?_)
  have hP : va_P D vwCl [(q, .inr (2, [.int 1, .ref e0, .int 0]))] H := hP
  have hD : va_D A [(q, .inr (2, [.int 1, .ref e0, .int 0]))] := hD
  refine lv_istore_n (lv' := [(3, .int 0), (2, .int 0), (1, .ref e0), (0, .ref q)]) hx hb dJx4a65c_clear_da8c8_26 rfl hl (by decide) rfl (fun ls hl => ?_)
  refine lv_iload_n hx hb dJx4a65c_clear_da8c8_27 rfl (lv_at hl 0 rfl) ?_
  refine lv_iload_n hx hb dJx4a65c_clear_da8c8_28 rfl (lv_at hl 1 rfl) ?_
  refine lv_icmp_ge (tgt := 42) hx hb dJx4a65c_clear_da8c8_29 (by decide) (fun c_29 => ?_) (fun c_29 => absurd (by decide) c_29)
  exact W.vret hx hb hr (fun t ht hW => ⟨⟨(), rfl, trivial, trivial⟩, hS.F ht⟩) hS.2.2 dJx4a65c_clear_da8c8_42

set_option maxHeartbeats 4000000 in
set_option maxRecDepth 100000 in
theorem k_X11_forgetRows (l : Launch) (D : va_G) (k : Nat → ClassId) (e0 : Nat) (sz : Nat) (to : Nat) (u : Nat → Nat) (en : Int32) : Met l yX11_forgetRows wsX11_forgetRows ({ frames := 0, cells := 0, slots := 0, locals := 0 }) (mPc D k e0 sz [.ref to] [(to, .inr (12, [.ref (u 0), .ref (u 1), .ref (u 2), .ref (u 3), .ref (u 4), .ref (u 5), .int en, .int 0, .int 0]))]) (va_Qv (fun (_ : Unit) => True) (fun _ t => va_P D vwCl [(to, .inr (12, [.ref (u 0), .ref (u 1), .ref (u 2), .ref (u 3), .ref (u 4), .ref (u 5), .int en, .int 0, .int 0]))] t.heap ∧ va_D (va_A [(to, .inr (12, [.ref (u 0), .ref (u 1), .ref (u 2), .ref (u 3), .ref (u 4), .ref (u 5), .int en, .int 0, .int 0]))] sz) [(to, .inr (12, [.ref (u 0), .ref (u 1), .ref (u 2), .ref (u 3), .ref (u 4), .ref (u 5), .int en, .int 0, .int 0]))]) (va_A [(to, .inr (12, [.ref (u 0), .ref (u 1), .ref (u 2), .ref (u 3), .ref (u 4), .ref (u 5), .int en, .int 0, .int 0]))] sz)) 0 0 (va_A [(to, .inr (12, [.ref (u 0), .ref (u 1), .ref (u 2), .ref (u 3), .ref (u 4), .ref (u 5), .int en, .int 0, .int 0]))] sz) := by
  refine Met.ofW (cc := cX11_forgetRows) (maxL := 1) (ret := none) (by decide) rfl ?_
  intro p e s m args below meth c s₁ B hml hv
  obtain ⟨rfl, rfl, hP, hC, hD0, hHf⟩ := hv
  have hx := B.exec
  have hb := B.bytes
  have hr := B.returns
  have hts := atoms_spec (ws := wsX11_forgetRows) B.pre
  have hown : s.vm.findClass RX11 = some m.cls := findClass_of_methodNamed B.named
  have hlocks := B.notSynchronized
  have hD := hD0.self (sz := s.heap.size)
  generalize hAe : va_A [(to, .inr (12, [.ref (u 0), .ref (u 1), .ref (u 2), .ref (u 3), .ref (u 4), .ref (u 5), .int en, .int 0, .int 0]))] s.heap.size = A at hD hHf ⊢
  have hA : ∀ q : Nat, s.heap.size ≤ q → A q := fun q h => by rw [← hAe]; exact Or.inr h
  have hS : va_S A s.heap s.heap [] := va_S.rf
  refine w_entry (Nat.le_of_ble_eq_true rfl) (fun ls hl => ?_)
  have hl : lv_has ls 1 [(0, .ref to)] := hl
  refine lv_aload_n hx hb dX11_forgetRows_0 rfl (lv_at hl 0 rfl) ?_
  refine lv_iconst (v := 0) hx hb dX11_forgetRows_1 (by decide) ?_
  refine va_put (D := D) (ci := 12) (v := .int 0) (ty := .int) (C := RX11) (T := TX11) (N := 9) hx hb hts (by decide +kernel) tyX11 tyX11_ok nmX11 hown hC.1 hP hD hS 0 rfl rfl 7 (by decide) (hts (.fieldLink RX11 42 "Triplegarth" "reckoned" "I") (by decide +kernel)) (fun _ h9 => h9) rfl (by decide +kernel) rfl rfl (Nat.le_of_ble_eq_true rfl) dX11_forgetRows_2 (fun H locs hP hD hS => ?_)
  have hP : va_P D vwCl [(to, .inr (12, [.ref (u 0), .ref (u 1), .ref (u 2), .ref (u 3), .ref (u 4), .ref (u 5), .int en, .int 0, .int 0]))] H := hP
  have hD : va_D A [(to, .inr (12, [.ref (u 0), .ref (u 1), .ref (u 2), .ref (u 3), .ref (u 4), .ref (u 5), .int en, .int 0, .int 0]))] := hD
  refine lv_aload_n hx hb dX11_forgetRows_5 rfl (lv_at hl 0 rfl) ?_
  refine lv_iconst (v := 0) hx hb dX11_forgetRows_6 (by decide) ?_
  refine va_put (D := D) (ci := 12) (v := .int 0) (ty := .int) (C := RX11) (T := TX11) (N := 9) hx hb hts (by decide +kernel) tyX11 tyX11_ok nmX11 hown hC.1 hP hD hS 0 rfl rfl 8 (by decide) (hts (.fieldLink RX11 46 "Triplegarth" "tried" "I") (by decide +kernel)) (fun _ h9 => h9) rfl (by decide +kernel) rfl rfl (Nat.le_of_ble_eq_true rfl) dX11_forgetRows_7 (fun H locs hP hD hS => ?_)
  have hP : va_P D vwCl [(to, .inr (12, [.ref (u 0), .ref (u 1), .ref (u 2), .ref (u 3), .ref (u 4), .ref (u 5), .int en, .int 0, .int 0]))] H := hP
  have hD : va_D A [(to, .inr (12, [.ref (u 0), .ref (u 1), .ref (u 2), .ref (u 3), .ref (u 4), .ref (u 5), .int en, .int 0, .int 0]))] := hD
  exact W.vret hx hb hr (fun t ht hW => ⟨⟨(), rfl, trivial, ⟨by rw [ht]; exact hP, hD⟩⟩, hS.F ht⟩) hS.2.2 dX11_forgetRows_10

set_option maxHeartbeats 4000000 in
set_option maxRecDepth 100000 in
theorem k_X11_total (l : Launch) (D : va_G) (k : Nat → ClassId) (h0 : Heap) (to : Nat) (u : Nat → Nat) (e0 : Nat) (hP : va_P D vwCl (wT k to e0 u) h0)  : Met l yX11_total wsX11_total ({ frames := 0, cells := 0, slots := 0, locals := 0 }) (pPc D k [.ref to] h0) (va_Qi (fun r (_ : Unit) => r = 0) (fun _ t => t.heap = h0) (fun _ => False)) 0 0 (fun _ => False) := by
  refine Met.ofW (cc := cX11_total) (maxL := 3) (ret := (some .int)) (by decide) rfl ?_
  intro p e s m args below meth c s₁ B hml hv
  obtain ⟨rfl, rfl, hC⟩ := hv
  have hx := B.exec
  have hb := B.bytes
  have hr := B.returns
  have hts := atoms_spec (ws := wsX11_total) B.pre
  have hown : s.vm.findClass RX11 = some m.cls := findClass_of_methodNamed B.named
  have hlocks := B.notSynchronized
  have hS : va_S (fun _ => False) s.heap s.heap [] := va_S.rf
  refine w_entry (Nat.le_of_ble_eq_true rfl) (fun ls hl => ?_)
  have hl : lv_has ls 3 [(0, .ref to)] := hl
  refine lv_iconst (v := 0) hx hb dX11_total_0 (by decide) ?_
  refine lv_istore_n (lv' := [(1, .int 0), (0, .ref to)]) hx hb dX11_total_1 rfl hl (by decide) rfl (fun ls hl => ?_)
  refine lv_iconst (v := 0) hx hb dX11_total_2 (by decide) ?_
  refine lv_istore_n (lv' := [(2, .int 0), (1, .int 0), (0, .ref to)]) hx hb dX11_total_3 rfl hl (by decide) rfl (fun ls hl => ?_)
  refine lv_iload_n hx hb dX11_total_4 rfl (lv_at hl 0 rfl) ?_
  refine lv_iconst (v := 3) hx hb dX11_total_5 (by decide) ?_
  refine lv_icmp_ge (tgt := 27) hx hb dX11_total_6 (by decide) (fun c_6 => absurd c_6 (by decide)) (fun c_6 => ?_)
  refine lv_iload_n hx hb dX11_total_9 rfl (lv_at hl 1 rfl) ?_
  refine lv_aload_n hx hb dX11_total_10 rfl (lv_at hl 2 rfl) ?_
  refine va_get (D := D) (ci := 12) (v := .ref (u 0)) (C := RX11) (T := TX11) (N := 9) hx hb hts (by decide +kernel) hown hC.1 hP 0 rfl rfl 0 (by decide) (hts (.fieldLink RX11 11 "Triplegarth" "graphs" "[LTriplegarth$Graph;") (by decide +kernel)) (fun _ h9 => h9) rfl dX11_total_11 ?_
  refine lv_iload_n hx hb dX11_total_14 rfl (lv_at hl 0 rfl) ?_
  refine va_aldq hx hb hC.1 hP 1 3 rfl rfl (vp_in_nI (n := 0) (N := 4) (by decide) (by decide)) dX11_total_15 ?_
  refine w_topr (y := .ref (u 6)) rfl ?_
  refine va_get (D := D) (ci := 4) (v := .int 0) (C := RX1) (T := TX1) (N := 5) hx hb hts (by decide +kernel) hown hC.1 hP 5 rfl rfl 2 (by decide) (hts (.fieldLink RX11 79 "Triplegarth$Graph" "count" "I") (by decide +kernel)) (fun _ h9 => h9) rfl dX11_total_16 ?_
  refine lv_iadd hx hb dX11_total_19 ?_
  refine w_top (y := 0) (by decide) ?_
  refine lv_istore_n (lv' := [(1, .int 0), (2, .int 0), (0, .ref to)]) hx hb dX11_total_20 rfl hl (by decide) rfl (fun ls hl => ?_)
  refine lv_iinc (v := 1) (lv' := [(2, .int 1), (1, .int 0), (0, .ref to)]) hx hb dX11_total_21 hl (k := 1) rfl (by decide) (by decide) rfl (fun ls hl => ?_)
  refine lv_goto (tgt := 4) hx hb dX11_total_24 (by decide) ?_
  refine lv_iload_n hx hb dX11_total_4 rfl (lv_at hl 0 rfl) ?_
  refine lv_iconst (v := 3) hx hb dX11_total_5 (by decide) ?_
  refine lv_icmp_ge (tgt := 27) hx hb dX11_total_6 (by decide) (fun c_6_1 => absurd c_6_1 (by decide)) (fun c_6_1 => ?_)
  refine lv_iload_n hx hb dX11_total_9 rfl (lv_at hl 1 rfl) ?_
  refine lv_aload_n hx hb dX11_total_10 rfl (lv_at hl 2 rfl) ?_
  refine va_get (D := D) (ci := 12) (v := .ref (u 0)) (C := RX11) (T := TX11) (N := 9) hx hb hts (by decide +kernel) hown hC.1 hP 0 rfl rfl 0 (by decide) (hts (.fieldLink RX11 11 "Triplegarth" "graphs" "[LTriplegarth$Graph;") (by decide +kernel)) (fun _ h9 => h9) rfl dX11_total_11 ?_
  refine lv_iload_n hx hb dX11_total_14 rfl (lv_at hl 0 rfl) ?_
  refine va_aldq hx hb hC.1 hP 1 3 rfl rfl (vp_in_nI (n := 1) (N := 4) (by decide) (by decide)) dX11_total_15 ?_
  refine w_topr (y := .ref (u 7)) rfl ?_
  refine va_get (D := D) (ci := 4) (v := .int 0) (C := RX1) (T := TX1) (N := 5) hx hb hts (by decide +kernel) hown hC.1 hP 9 rfl rfl 2 (by decide) (hts (.fieldLink RX11 79 "Triplegarth$Graph" "count" "I") (by decide +kernel)) (fun _ h9 => h9) rfl dX11_total_16 ?_
  refine lv_iadd hx hb dX11_total_19 ?_
  refine w_top (y := 0) (by decide) ?_
  refine lv_istore_n (lv' := [(1, .int 0), (2, .int 1), (0, .ref to)]) hx hb dX11_total_20 rfl hl (by decide) rfl (fun ls hl => ?_)
  refine lv_iinc (v := 2) (lv' := [(2, .int 2), (1, .int 0), (0, .ref to)]) hx hb dX11_total_21 hl (k := 1) rfl (by decide) (by decide) rfl (fun ls hl => ?_)
  refine lv_goto (tgt := 4) hx hb dX11_total_24 (by decide) ?_
  refine lv_iload_n hx hb dX11_total_4 rfl (lv_at hl 0 rfl) ?_
  refine lv_iconst (v := 3) hx hb dX11_total_5 (by decide) ?_
  refine lv_icmp_ge (tgt := 27) hx hb dX11_total_6 (by decide) (fun c_6_2 => absurd c_6_2 (by decide)) (fun c_6_2 => ?_)
  refine lv_iload_n hx hb dX11_total_9 rfl (lv_at hl 1 rfl) ?_
  refine lv_aload_n hx hb dX11_total_10 rfl (lv_at hl 2 rfl) ?_
  refine va_get (D := D) (ci := 12) (v := .ref (u 0)) (C := RX11) (T := TX11) (N := 9) hx hb hts (by decide +kernel) hown hC.1 hP 0 rfl rfl 0 (by decide) (hts (.fieldLink RX11 11 "Triplegarth" "graphs" "[LTriplegarth$Graph;") (by decide +kernel)) (fun _ h9 => h9) rfl dX11_total_11 ?_
  refine lv_iload_n hx hb dX11_total_14 rfl (lv_at hl 0 rfl) ?_
  refine va_aldq hx hb hC.1 hP 1 3 rfl rfl (vp_in_nI (n := 2) (N := 4) (by decide) (by decide)) dX11_total_15 ?_
  refine w_topr (y := .ref (u 8)) rfl ?_
  refine va_get (D := D) (ci := 4) (v := .int 0) (C := RX1) (T := TX1) (N := 5) hx hb hts (by decide +kernel) hown hC.1 hP 13 rfl rfl 2 (by decide) (hts (.fieldLink RX11 79 "Triplegarth$Graph" "count" "I") (by decide +kernel)) (fun _ h9 => h9) rfl dX11_total_16 ?_
  refine lv_iadd hx hb dX11_total_19 ?_
  refine w_top (y := 0) (by decide) ?_
  refine lv_istore_n (lv' := [(1, .int 0), (2, .int 2), (0, .ref to)]) hx hb dX11_total_20 rfl hl (by decide) rfl (fun ls hl => ?_)
  refine lv_iinc (v := 3) (lv' := [(2, .int 3), (1, .int 0), (0, .ref to)]) hx hb dX11_total_21 hl (k := 1) rfl (by decide) (by decide) rfl (fun ls hl => ?_)
  refine lv_goto (tgt := 4) hx hb dX11_total_24 (by decide) ?_
  refine lv_iload_n hx hb dX11_total_4 rfl (lv_at hl 0 rfl) ?_
  refine lv_iconst (v := 3) hx hb dX11_total_5 (by decide) ?_
  refine lv_icmp_ge (tgt := 27) hx hb dX11_total_6 (by decide) (fun c_6_3 => ?_) (fun c_6_3 => absurd (by decide) c_6_3)
  refine lv_iload_n hx hb dX11_total_27 rfl (lv_at hl 1 rfl) ?_
  exact W.iret (v := 0) hx hb hr (fun t ht hW => ⟨⟨0, (), rfl, rfl, ht⟩, hS.F ht⟩) hS.2.2 dX11_total_28

set_option maxHeartbeats 4000000 in
set_option maxRecDepth 100000 in
theorem k_X11_put (l : Launch) (D : va_G) (k : Nat → ClassId) (e0 : Nat) (sz : Nat) (to : Nat) (u : Nat → Nat) (j i : Nat) (hj : j < 4) (hi : i < 768) : Met l yX11_put wsX11_put ({ frames := 2, cells := 0, slots := 0, locals := 42 }) (mPc D k e0 sz [.ref to, .int (nI j), .int (nI i)] [(to, .inr (12, [.ref (u 0), .ref (u 1), .ref (u 2), .ref (u 3), .ref (u 4), .ref (u 5), .int 0, .int 0, .int 0])), ((u 0), .inl (k 3, 4, .inr (.inr (.inr (.inr (fun i => some (u (6 + i)))))))), ((u (6 + j)), .inr (4, [.ref (u (10 + j)), .ref (u (14 + j)), .int 0, .int 0, .int 0])), ((u (10 + j)), .inl (k 0, 768, .inl (fun _ => 0))), ((u 9), .inr (4, [.ref (u 13), .ref (u 17), .int 0, .int 0, .int 0])), ((u 13), .inl (k 0, 768, .inl (fun _ => 0)))]) (va_Qv (fun (_ : Unit) => True) (fun _ t => True) (va_A [(to, .inr (12, [.ref (u 0), .ref (u 1), .ref (u 2), .ref (u 3), .ref (u 4), .ref (u 5), .int 0, .int 0, .int 0])), ((u 0), .inl (k 3, 4, .inr (.inr (.inr (.inr (fun i => some (u (6 + i)))))))), ((u (6 + j)), .inr (4, [.ref (u (10 + j)), .ref (u (14 + j)), .int 0, .int 0, .int 0])), ((u (10 + j)), .inl (k 0, 768, .inl (fun _ => 0))), ((u 9), .inr (4, [.ref (u 13), .ref (u 17), .int 0, .int 0, .int 0])), ((u 13), .inl (k 0, 768, .inl (fun _ => 0)))] sz)) 0 0 (va_A [(to, .inr (12, [.ref (u 0), .ref (u 1), .ref (u 2), .ref (u 3), .ref (u 4), .ref (u 5), .int 0, .int 0, .int 0])), ((u 0), .inl (k 3, 4, .inr (.inr (.inr (.inr (fun i => some (u (6 + i)))))))), ((u (6 + j)), .inr (4, [.ref (u (10 + j)), .ref (u (14 + j)), .int 0, .int 0, .int 0])), ((u (10 + j)), .inl (k 0, 768, .inl (fun _ => 0))), ((u 9), .inr (4, [.ref (u 13), .ref (u 17), .int 0, .int 0, .int 0])), ((u 13), .inl (k 0, 768, .inl (fun _ => 0)))] sz) := by
  refine Met.ofW (cc := cX11_put) (maxL := 3) (ret := none) (by decide) rfl ?_
  intro p e s m args below meth c s₁ B hml hv
  obtain ⟨rfl, rfl, hP, hC, hD0, hHf⟩ := hv
  have hx := B.exec
  have hb := B.bytes
  have hr := B.returns
  have hts := atoms_spec (ws := wsX11_put) B.pre
  have hown : s.vm.findClass RX11 = some m.cls := findClass_of_methodNamed B.named
  have hlocks := B.notSynchronized
  have hD := hD0.self (sz := s.heap.size)
  generalize hAe : va_A [(to, .inr (12, [.ref (u 0), .ref (u 1), .ref (u 2), .ref (u 3), .ref (u 4), .ref (u 5), .int 0, .int 0, .int 0])), ((u 0), .inl (k 3, 4, .inr (.inr (.inr (.inr (fun i => some (u (6 + i)))))))), ((u (6 + j)), .inr (4, [.ref (u (10 + j)), .ref (u (14 + j)), .int 0, .int 0, .int 0])), ((u (10 + j)), .inl (k 0, 768, .inl (fun _ => 0))), ((u 9), .inr (4, [.ref (u 13), .ref (u 17), .int 0, .int 0, .int 0])), ((u 13), .inl (k 0, 768, .inl (fun _ => 0)))] s.heap.size = A at hD hHf ⊢
  have hA : ∀ q : Nat, s.heap.size ≤ q → A q := fun q h => by rw [← hAe]; exact Or.inr h
  have hS : va_S A s.heap s.heap [] := va_S.rf
  refine w_entry (Nat.le_of_ble_eq_true rfl) (fun ls hl => ?_)
  have hl : lv_has ls 3 [(0, .ref to), (1, .int (nI j)), (2, .int (nI i))] := hl
  refine lv_aload_n hx hb dX11_put_0 rfl (lv_at hl 0 rfl) ?_
  refine va_get (D := D) (ci := 12) (v := .ref (u 0)) (C := RX11) (T := TX11) (N := 9) hx hb hts (by decide +kernel) hown hC.1 hP 0 rfl rfl 0 (by decide) (hts (.fieldLink RX11 11 "Triplegarth" "graphs" "[LTriplegarth$Graph;") (by decide +kernel)) (fun _ h9 => h9) rfl dX11_put_1 ?_
  refine lv_iload_n hx hb dX11_put_4 rfl (lv_at hl 1 rfl) ?_
  refine va_aldq hx hb hC.1 hP 1 3 rfl rfl (vp_in_nI (show j < 4 by omega) (by decide)) dX11_put_5 ?_
  refine w_topr (y := .ref (u (6 + j))) (by rw [nI_clamp (show j < 2 ^ 31 by omega)]; rfl) ?_
  refine lv_iload_n hx hb dX11_put_6 rfl (lv_at hl 2 rfl) ?_
  have hPc := hP.sub (ws' := [((u (6 + j)), .inr (4, [.ref (u (10 + j)), .ref (u (14 + j)), .int 0, .int 0, .int 0])), ((u (10 + j)), .inl (k 0, 768, .inl (fun _ => 0)))]) [2, 3] rfl
  have hDc := hD.sub (ws' := [((u (6 + j)), .inr (4, [.ref (u (10 + j)), .ref (u (14 + j)), .int 0, .int 0, .int 0])), ((u (10 + j)), .inl (k 0, 768, .inl (fun _ => 0)))]) [2, 3] (by decide) rfl
  have hFc := va_free (wc := [((u (6 + j)), .inr (4, [.ref (u (10 + j)), .ref (u (14 + j)), .int 0, .int 0, .int 0])), ((u (10 + j)), .inl (k 0, 768, .inl (fun _ => 0)))]) hD hS hA [2, 3] rfl
  refine va_callv (va_runV (As := [.int (nI i)]) (rest := []) ⟨hx, hb, hml, hown, hts⟩ (k_X1_put l D k e0 s.heap.size (u (6 + j)) (u (10 + j)) (u (14 + j)) i hi) (cwV 1 hts gX11_put_X1_put rfl rfl rfl (by decide +kernel) ⟨Nat.le_of_ble_eq_true rfl, Nat.le_of_ble_eq_true rfl⟩) ⟨mPc_fb, va_recv hC.1 hPc (ci := 4) (q0 := 0) rfl rfl, mPc_go hC hHf hS hPc hDc hFc⟩ rfl rfl hl.1 rfl (lv_room (Nat.le_of_ble_eq_true rfl)) dX11_put_7 ⟨Nat.le_of_ble_eq_true rfl, Nat.le_of_ble_eq_true rfl⟩) hS (fun q9 _ h9 => hFc q9 h9) hFc (fun u1 t H locs ht hvm hw_r2 hB hz1 hk1 hS => ?_)
  obtain ⟨hP, hD⟩ := va_join (wr := [(to, .inr (12, [.ref (u 0), .ref (u 1), .ref (u 2), .ref (u 3), .ref (u 4), .ref (u 5), .int 0, .int 0, .int 0])), ((u 0), .inl (k 3, 4, .inr (.inr (.inr (.inr (fun i => some (u (6 + i)))))))), ((u 9), .inr (4, [.ref (u 13), .ref (u 17), .int 0, .int 0, .int 0])), ((u 13), .inl (k 0, 768, .inl (fun _ => 0)))]) (w1 := []) hP hD [2, 3] [0, 1, 4, 5] rfl rfl (by decide) (by decide) hk1 hFc w_nilP w_nilD
  have hP : va_P D vwCl [(to, .inr (12, [.ref (u 0), .ref (u 1), .ref (u 2), .ref (u 3), .ref (u 4), .ref (u 5), .int 0, .int 0, .int 0])), ((u 0), .inl (k 3, 4, .inr (.inr (.inr (.inr (fun i => some (u (6 + i)))))))), ((u 9), .inr (4, [.ref (u 13), .ref (u 17), .int 0, .int 0, .int 0])), ((u 13), .inl (k 0, 768, .inl (fun _ => 0)))] H := hP
  have hD : va_D A [(to, .inr (12, [.ref (u 0), .ref (u 1), .ref (u 2), .ref (u 3), .ref (u 4), .ref (u 5), .int 0, .int 0, .int 0])), ((u 0), .inl (k 3, 4, .inr (.inr (.inr (.inr (fun i => some (u (6 + i)))))))), ((u 9), .inr (4, [.ref (u 13), .ref (u 17), .int 0, .int 0, .int 0])), ((u 13), .inl (k 0, 768, .inl (fun _ => 0)))] := hD
  refine lv_aload_n hx hb dX11_put_10 rfl (lv_at hl 0 rfl) ?_
  refine va_get (D := D) (ci := 12) (v := .ref (u 0)) (C := RX11) (T := TX11) (N := 9) hx hb hts (by decide +kernel) hown hC.1 hP 0 rfl rfl 0 (by decide) (hts (.fieldLink RX11 11 "Triplegarth" "graphs" "[LTriplegarth$Graph;") (by decide +kernel)) (fun _ h9 => h9) rfl dX11_put_11 ?_
  refine lv_iconst (v := 3) hx hb dX11_put_14 (by decide) ?_
  refine va_aldq hx hb hC.1 hP 1 3 rfl rfl (vp_in_nI (n := 3) (N := 4) (by decide) (by decide)) dX11_put_15 ?_
  refine w_topr (y := .ref (u 9)) rfl ?_
  refine lv_iload_n hx hb dX11_put_16 rfl (lv_at hl 2 rfl) ?_
  have hPc := hP.sub (ws' := [((u 9), .inr (4, [.ref (u 13), .ref (u 17), .int 0, .int 0, .int 0])), ((u 13), .inl (k 0, 768, .inl (fun _ => 0)))]) [2, 3] rfl
  have hDc := hD.sub (ws' := [((u 9), .inr (4, [.ref (u 13), .ref (u 17), .int 0, .int 0, .int 0])), ((u 13), .inl (k 0, 768, .inl (fun _ => 0)))]) [2, 3] (by decide) rfl
  have hFc := va_free (wc := [((u 9), .inr (4, [.ref (u 13), .ref (u 17), .int 0, .int 0, .int 0])), ((u 13), .inl (k 0, 768, .inl (fun _ => 0)))]) hD hS hA [2, 3] rfl
  refine va_callv (va_runV (As := [.int (nI i)]) (rest := []) ⟨hx, hb, hml, hown, hts⟩ (k_X1_put l D k e0 H.size (u 9) (u 13) (u 17) i hi) (cwV 1 hts gX11_put_X1_put rfl rfl rfl (by decide +kernel) ⟨Nat.le_of_ble_eq_true rfl, Nat.le_of_ble_eq_true rfl⟩) ⟨mPc_fb, va_recv hC.1 hPc (ci := 4) (q0 := 0) rfl rfl, mPc_go hC hHf hS hPc hDc hFc⟩ rfl rfl hl.1 rfl (lv_room (Nat.le_of_ble_eq_true rfl)) dX11_put_17 ⟨Nat.le_of_ble_eq_true rfl, Nat.le_of_ble_eq_true rfl⟩) hS (fun q9 _ h9 => hFc q9 h9) hFc (fun u4 t H locs ht hvm hw_r5 hB hz1 hk1 hS => ?_)
  obtain ⟨hP, hD⟩ := va_join (wr := [(to, .inr (12, [.ref (u 0), .ref (u 1), .ref (u 2), .ref (u 3), .ref (u 4), .ref (u 5), .int 0, .int 0, .int 0])), ((u 0), .inl (k 3, 4, .inr (.inr (.inr (.inr (fun i => some (u (6 + i))))))))]) (w1 := []) hP hD [2, 3] [0, 1] rfl rfl (by decide) (by decide) hk1 hFc w_nilP w_nilD
  have hP : va_P D vwCl [(to, .inr (12, [.ref (u 0), .ref (u 1), .ref (u 2), .ref (u 3), .ref (u 4), .ref (u 5), .int 0, .int 0, .int 0])), ((u 0), .inl (k 3, 4, .inr (.inr (.inr (.inr (fun i => some (u (6 + i))))))))] H := hP
  have hD : va_D A [(to, .inr (12, [.ref (u 0), .ref (u 1), .ref (u 2), .ref (u 3), .ref (u 4), .ref (u 5), .int 0, .int 0, .int 0])), ((u 0), .inl (k 3, 4, .inr (.inr (.inr (.inr (fun i => some (u (6 + i))))))))] := hD
  refine lv_aload_n hx hb dX11_put_20 rfl (lv_at hl 0 rfl) ?_
  have hPc := hP.sub (ws' := [(to, .inr (12, [.ref (u 0), .ref (u 1), .ref (u 2), .ref (u 3), .ref (u 4), .ref (u 5), .int 0, .int 0, .int 0]))]) [0] rfl
  have hDc := hD.sub (ws' := [(to, .inr (12, [.ref (u 0), .ref (u 1), .ref (u 2), .ref (u 3), .ref (u 4), .ref (u 5), .int 0, .int 0, .int 0]))]) [0] (by decide) rfl
  have hFc := va_free (wc := [(to, .inr (12, [.ref (u 0), .ref (u 1), .ref (u 2), .ref (u 3), .ref (u 4), .ref (u 5), .int 0, .int 0, .int 0]))]) hD hS hA [0] rfl
  refine va_callv (va_runV (As := []) (rest := []) ⟨hx, hb, hml, hown, hts⟩ (k_X11_forgetRows l D k e0 H.size to u 0) (cwV 0 hts gX11_put_X11_forgetRows rfl rfl rfl (by decide +kernel) ⟨Nat.le_of_ble_eq_true rfl, Nat.le_of_ble_eq_true rfl⟩) ⟨mPc_fb, va_recv hC.1 hPc (ci := 12) (q0 := 0) rfl rfl, mPc_go hC hHf hS hPc hDc hFc⟩ rfl rfl hl.1 rfl (lv_room (Nat.le_of_ble_eq_true rfl)) dX11_put_21 ⟨Nat.le_of_ble_eq_true rfl, Nat.le_of_ble_eq_true rfl⟩) hS (fun q9 _ h9 => hFc q9 h9) hFc (fun u7 t H locs ht hvm hw_r8 hB hz1 hk1 hS => ?_)
  obtain ⟨hP1, hD1⟩ := hB
  rw [ht] at hP1
  obtain ⟨hP, hD⟩ := va_join (wr := [((u 0), .inl (k 3, 4, .inr (.inr (.inr (.inr (fun i => some (u (6 + i))))))))]) (w1 := [(to, .inr (12, [.ref (u 0), .ref (u 1), .ref (u 2), .ref (u 3), .ref (u 4), .ref (u 5), .int 0, .int 0, .int 0]))]) hP hD [0] [1] rfl rfl (by decide) (by decide) hk1 hFc hP1 hD1
  have hP : va_P D vwCl [((u 0), .inl (k 3, 4, .inr (.inr (.inr (.inr (fun i => some (u (6 + i)))))))), (to, .inr (12, [.ref (u 0), .ref (u 1), .ref (u 2), .ref (u 3), .ref (u 4), .ref (u 5), .int 0, .int 0, .int 0]))] H := hP
  have hD : va_D A [((u 0), .inl (k 3, 4, .inr (.inr (.inr (.inr (fun i => some (u (6 + i)))))))), (to, .inr (12, [.ref (u 0), .ref (u 1), .ref (u 2), .ref (u 3), .ref (u 4), .ref (u 5), .int 0, .int 0, .int 0]))] := hD
  exact W.vret hx hb hr (fun t ht hW => ⟨⟨(), rfl, trivial, trivial⟩, hS.F ht⟩) hS.2.2 dX11_put_24

set_option maxHeartbeats 4000000 in
set_option maxRecDepth 100000 in
theorem k_X11_openGraphs (l : Launch) (D : va_G) (k : Nat → ClassId) (e0 : Nat) (sz : Nat) (to : Nat) (u : Nat → Nat) : Met l yX11_openGraphs wsX11_openGraphs ({ frames := 1, cells := 0, slots := 0, locals := 20 }) (mPc D k e0 sz [.ref to] [(to, .inr (12, [.ref (u 0), .ref (u 1), .ref (u 2), .ref (u 3), .ref (u 4), .ref (u 5), .int 0, .int 0, .int 0])), ((u 0), .inl (k 3, 4, .inr (.inr (.inr (.inr (fun i => some (u (6 + i)))))))), ((u 6), .inr (4, [.ref (u 10), .ref (u 14), .int 0, .int 0, .int 0])), ((u 7), .inr (4, [.ref (u 11), .ref (u 15), .int 0, .int 0, .int 0])), ((u 8), .inr (4, [.ref (u 12), .ref (u 16), .int 0, .int 0, .int 0])), ((u 9), .inr (4, [.ref (u 13), .ref (u 17), .int 0, .int 0, .int 0]))]) (va_Qv (fun (_ : Unit) => True) (fun _ t => va_P D vwCl [(to, .inr (12, [.ref (u 0), .ref (u 1), .ref (u 2), .ref (u 3), .ref (u 4), .ref (u 5), .int 0, .int 0, .int 0]))] t.heap ∧ va_D (va_A [(to, .inr (12, [.ref (u 0), .ref (u 1), .ref (u 2), .ref (u 3), .ref (u 4), .ref (u 5), .int 0, .int 0, .int 0])), ((u 0), .inl (k 3, 4, .inr (.inr (.inr (.inr (fun i => some (u (6 + i)))))))), ((u 6), .inr (4, [.ref (u 10), .ref (u 14), .int 0, .int 0, .int 0])), ((u 7), .inr (4, [.ref (u 11), .ref (u 15), .int 0, .int 0, .int 0])), ((u 8), .inr (4, [.ref (u 12), .ref (u 16), .int 0, .int 0, .int 0])), ((u 9), .inr (4, [.ref (u 13), .ref (u 17), .int 0, .int 0, .int 0]))] sz) [(to, .inr (12, [.ref (u 0), .ref (u 1), .ref (u 2), .ref (u 3), .ref (u 4), .ref (u 5), .int 0, .int 0, .int 0]))]) (va_A [(to, .inr (12, [.ref (u 0), .ref (u 1), .ref (u 2), .ref (u 3), .ref (u 4), .ref (u 5), .int 0, .int 0, .int 0])), ((u 0), .inl (k 3, 4, .inr (.inr (.inr (.inr (fun i => some (u (6 + i)))))))), ((u 6), .inr (4, [.ref (u 10), .ref (u 14), .int 0, .int 0, .int 0])), ((u 7), .inr (4, [.ref (u 11), .ref (u 15), .int 0, .int 0, .int 0])), ((u 8), .inr (4, [.ref (u 12), .ref (u 16), .int 0, .int 0, .int 0])), ((u 9), .inr (4, [.ref (u 13), .ref (u 17), .int 0, .int 0, .int 0]))] sz)) 0 0 (va_A [(to, .inr (12, [.ref (u 0), .ref (u 1), .ref (u 2), .ref (u 3), .ref (u 4), .ref (u 5), .int 0, .int 0, .int 0])), ((u 0), .inl (k 3, 4, .inr (.inr (.inr (.inr (fun i => some (u (6 + i)))))))), ((u 6), .inr (4, [.ref (u 10), .ref (u 14), .int 0, .int 0, .int 0])), ((u 7), .inr (4, [.ref (u 11), .ref (u 15), .int 0, .int 0, .int 0])), ((u 8), .inr (4, [.ref (u 12), .ref (u 16), .int 0, .int 0, .int 0])), ((u 9), .inr (4, [.ref (u 13), .ref (u 17), .int 0, .int 0, .int 0]))] sz) := by
  refine Met.ofW (cc := cX11_openGraphs) (maxL := 2) (ret := none) (by decide) rfl ?_
  intro p e s m args below meth c s₁ B hml hv
  obtain ⟨rfl, rfl, hP, hC, hD0, hHf⟩ := hv
  have hx := B.exec
  have hb := B.bytes
  have hr := B.returns
  have hts := atoms_spec (ws := wsX11_openGraphs) B.pre
  have hown : s.vm.findClass RX11 = some m.cls := findClass_of_methodNamed B.named
  have hlocks := B.notSynchronized
  have hD := hD0.self (sz := s.heap.size)
  generalize hAe : va_A [(to, .inr (12, [.ref (u 0), .ref (u 1), .ref (u 2), .ref (u 3), .ref (u 4), .ref (u 5), .int 0, .int 0, .int 0])), ((u 0), .inl (k 3, 4, .inr (.inr (.inr (.inr (fun i => some (u (6 + i)))))))), ((u 6), .inr (4, [.ref (u 10), .ref (u 14), .int 0, .int 0, .int 0])), ((u 7), .inr (4, [.ref (u 11), .ref (u 15), .int 0, .int 0, .int 0])), ((u 8), .inr (4, [.ref (u 12), .ref (u 16), .int 0, .int 0, .int 0])), ((u 9), .inr (4, [.ref (u 13), .ref (u 17), .int 0, .int 0, .int 0]))] s.heap.size = A at hD hHf ⊢
  have hA : ∀ q : Nat, s.heap.size ≤ q → A q := fun q h => by rw [← hAe]; exact Or.inr h
  have hS : va_S A s.heap s.heap [] := va_S.rf
  refine w_entry (Nat.le_of_ble_eq_true rfl) (fun ls hl => ?_)
  have hl : lv_has ls 2 [(0, .ref to)] := hl
  refine lv_iconst (v := 0) hx hb dX11_openGraphs_0 (by decide) ?_
  refine lv_istore_n (lv' := [(1, .int 0), (0, .ref to)]) hx hb dX11_openGraphs_1 rfl hl (by decide) rfl (fun ls hl => ?_)
  refine lv_iload_n hx hb dX11_openGraphs_2 rfl (lv_at hl 0 rfl) ?_
  refine lv_iconst (v := 4) hx hb dX11_openGraphs_3 (by decide) ?_
  refine lv_icmp_ge (tgt := 23) hx hb dX11_openGraphs_4 (by decide) (fun c_4 => absurd c_4 (by decide)) (fun c_4 => ?_)
  refine lv_aload_n hx hb dX11_openGraphs_7 rfl (lv_at hl 1 rfl) ?_
  refine va_get (D := D) (ci := 12) (v := .ref (u 0)) (C := RX11) (T := TX11) (N := 9) hx hb hts (by decide +kernel) hown hC.1 hP 0 rfl rfl 0 (by decide) (hts (.fieldLink RX11 11 "Triplegarth" "graphs" "[LTriplegarth$Graph;") (by decide +kernel)) (fun _ h9 => h9) rfl dX11_openGraphs_8 ?_
  refine lv_iload_n hx hb dX11_openGraphs_11 rfl (lv_at hl 0 rfl) ?_
  refine va_aldq hx hb hC.1 hP 1 3 rfl rfl (vp_in_nI (n := 0) (N := 4) (by decide) (by decide)) dX11_openGraphs_12 ?_
  refine w_topr (y := .ref (u 6)) rfl ?_
  refine lv_iconst (v := 0) hx hb dX11_openGraphs_13 (by decide) ?_
  refine va_put (D := D) (ci := 4) (v := .int 0) (ty := .boolean) (C := RX1) (T := TX1) (N := 5) hx hb hts (by decide +kernel) tyX1 tyX1_ok nmX1 hown hC.1 hP hD hS 2 rfl rfl 3 (by decide) (hts (.fieldLink RX11 261 "Triplegarth$Graph" "isClosed" "Z") (by decide +kernel)) (fun _ h9 => h9) rfl (by decide +kernel) rfl rfl (Nat.le_of_ble_eq_true rfl) dX11_openGraphs_14 (fun H locs hP hD hS => ?_)
  have hP : va_P D vwCl [(to, .inr (12, [.ref (u 0), .ref (u 1), .ref (u 2), .ref (u 3), .ref (u 4), .ref (u 5), .int 0, .int 0, .int 0])), ((u 0), .inl (k 3, 4, .inr (.inr (.inr (.inr (fun i => some (u (6 + i)))))))), ((u 6), .inr (4, [.ref (u 10), .ref (u 14), .int 0, .int 0, .int 0])), ((u 7), .inr (4, [.ref (u 11), .ref (u 15), .int 0, .int 0, .int 0])), ((u 8), .inr (4, [.ref (u 12), .ref (u 16), .int 0, .int 0, .int 0])), ((u 9), .inr (4, [.ref (u 13), .ref (u 17), .int 0, .int 0, .int 0]))] H := hP
  have hD : va_D A [(to, .inr (12, [.ref (u 0), .ref (u 1), .ref (u 2), .ref (u 3), .ref (u 4), .ref (u 5), .int 0, .int 0, .int 0])), ((u 0), .inl (k 3, 4, .inr (.inr (.inr (.inr (fun i => some (u (6 + i)))))))), ((u 6), .inr (4, [.ref (u 10), .ref (u 14), .int 0, .int 0, .int 0])), ((u 7), .inr (4, [.ref (u 11), .ref (u 15), .int 0, .int 0, .int 0])), ((u 8), .inr (4, [.ref (u 12), .ref (u 16), .int 0, .int 0, .int 0])), ((u 9), .inr (4, [.ref (u 13), .ref (u 17), .int 0, .int 0, .int 0]))] := hD
  refine lv_iinc (v := 1) (lv' := [(1, .int 1), (0, .ref to)]) hx hb dX11_openGraphs_17 hl (k := 0) rfl (by decide) (by decide) rfl (fun ls hl => ?_)
  refine lv_goto (tgt := 2) hx hb dX11_openGraphs_20 (by decide) ?_
  refine lv_iload_n hx hb dX11_openGraphs_2 rfl (lv_at hl 0 rfl) ?_
  refine lv_iconst (v := 4) hx hb dX11_openGraphs_3 (by decide) ?_
  refine lv_icmp_ge (tgt := 23) hx hb dX11_openGraphs_4 (by decide) (fun c_4_1 => absurd c_4_1 (by decide)) (fun c_4_1 => ?_)
  refine lv_aload_n hx hb dX11_openGraphs_7 rfl (lv_at hl 1 rfl) ?_
  refine va_get (D := D) (ci := 12) (v := .ref (u 0)) (C := RX11) (T := TX11) (N := 9) hx hb hts (by decide +kernel) hown hC.1 hP 0 rfl rfl 0 (by decide) (hts (.fieldLink RX11 11 "Triplegarth" "graphs" "[LTriplegarth$Graph;") (by decide +kernel)) (fun _ h9 => h9) rfl dX11_openGraphs_8 ?_
  refine lv_iload_n hx hb dX11_openGraphs_11 rfl (lv_at hl 0 rfl) ?_
  refine va_aldq hx hb hC.1 hP 1 3 rfl rfl (vp_in_nI (n := 1) (N := 4) (by decide) (by decide)) dX11_openGraphs_12 ?_
  refine w_topr (y := .ref (u 7)) rfl ?_
  refine lv_iconst (v := 0) hx hb dX11_openGraphs_13 (by decide) ?_
  refine va_put (D := D) (ci := 4) (v := .int 0) (ty := .boolean) (C := RX1) (T := TX1) (N := 5) hx hb hts (by decide +kernel) tyX1 tyX1_ok nmX1 hown hC.1 hP hD hS 3 rfl rfl 3 (by decide) (hts (.fieldLink RX11 261 "Triplegarth$Graph" "isClosed" "Z") (by decide +kernel)) (fun _ h9 => h9) rfl (by decide +kernel) rfl rfl (Nat.le_of_ble_eq_true rfl) dX11_openGraphs_14 (fun H locs hP hD hS => ?_)
  have hP : va_P D vwCl [(to, .inr (12, [.ref (u 0), .ref (u 1), .ref (u 2), .ref (u 3), .ref (u 4), .ref (u 5), .int 0, .int 0, .int 0])), ((u 0), .inl (k 3, 4, .inr (.inr (.inr (.inr (fun i => some (u (6 + i)))))))), ((u 6), .inr (4, [.ref (u 10), .ref (u 14), .int 0, .int 0, .int 0])), ((u 7), .inr (4, [.ref (u 11), .ref (u 15), .int 0, .int 0, .int 0])), ((u 8), .inr (4, [.ref (u 12), .ref (u 16), .int 0, .int 0, .int 0])), ((u 9), .inr (4, [.ref (u 13), .ref (u 17), .int 0, .int 0, .int 0]))] H := hP
  have hD : va_D A [(to, .inr (12, [.ref (u 0), .ref (u 1), .ref (u 2), .ref (u 3), .ref (u 4), .ref (u 5), .int 0, .int 0, .int 0])), ((u 0), .inl (k 3, 4, .inr (.inr (.inr (.inr (fun i => some (u (6 + i)))))))), ((u 6), .inr (4, [.ref (u 10), .ref (u 14), .int 0, .int 0, .int 0])), ((u 7), .inr (4, [.ref (u 11), .ref (u 15), .int 0, .int 0, .int 0])), ((u 8), .inr (4, [.ref (u 12), .ref (u 16), .int 0, .int 0, .int 0])), ((u 9), .inr (4, [.ref (u 13), .ref (u 17), .int 0, .int 0, .int 0]))] := hD
  refine lv_iinc (v := 2) (lv' := [(1, .int 2), (0, .ref to)]) hx hb dX11_openGraphs_17 hl (k := 0) rfl (by decide) (by decide) rfl (fun ls hl => ?_)
  refine lv_goto (tgt := 2) hx hb dX11_openGraphs_20 (by decide) ?_
  refine lv_iload_n hx hb dX11_openGraphs_2 rfl (lv_at hl 0 rfl) ?_
  refine lv_iconst (v := 4) hx hb dX11_openGraphs_3 (by decide) ?_
  refine lv_icmp_ge (tgt := 23) hx hb dX11_openGraphs_4 (by decide) (fun c_4_2 => absurd c_4_2 (by decide)) (fun c_4_2 => ?_)
  refine lv_aload_n hx hb dX11_openGraphs_7 rfl (lv_at hl 1 rfl) ?_
  refine va_get (D := D) (ci := 12) (v := .ref (u 0)) (C := RX11) (T := TX11) (N := 9) hx hb hts (by decide +kernel) hown hC.1 hP 0 rfl rfl 0 (by decide) (hts (.fieldLink RX11 11 "Triplegarth" "graphs" "[LTriplegarth$Graph;") (by decide +kernel)) (fun _ h9 => h9) rfl dX11_openGraphs_8 ?_
  refine lv_iload_n hx hb dX11_openGraphs_11 rfl (lv_at hl 0 rfl) ?_
  refine va_aldq hx hb hC.1 hP 1 3 rfl rfl (vp_in_nI (n := 2) (N := 4) (by decide) (by decide)) dX11_openGraphs_12 ?_
  refine w_topr (y := .ref (u 8)) rfl ?_
  refine lv_iconst (v := 0) hx hb dX11_openGraphs_13 (by decide) ?_
  refine va_put (D := D) (ci := 4) (v := .int 0) (ty := .boolean) (C := RX1) (T := TX1) (N := 5) hx hb hts (by decide +kernel) tyX1 tyX1_ok nmX1 hown hC.1 hP hD hS 4 rfl rfl 3 (by decide) (hts (.fieldLink RX11 261 "Triplegarth$Graph" "isClosed" "Z") (by decide +kernel)) (fun _ h9 => h9) rfl (by decide +kernel) rfl rfl (Nat.le_of_ble_eq_true rfl) dX11_openGraphs_14 (fun H locs hP hD hS => ?_)
  have hP : va_P D vwCl [(to, .inr (12, [.ref (u 0), .ref (u 1), .ref (u 2), .ref (u 3), .ref (u 4), .ref (u 5), .int 0, .int 0, .int 0])), ((u 0), .inl (k 3, 4, .inr (.inr (.inr (.inr (fun i => some (u (6 + i)))))))), ((u 6), .inr (4, [.ref (u 10), .ref (u 14), .int 0, .int 0, .int 0])), ((u 7), .inr (4, [.ref (u 11), .ref (u 15), .int 0, .int 0, .int 0])), ((u 8), .inr (4, [.ref (u 12), .ref (u 16), .int 0, .int 0, .int 0])), ((u 9), .inr (4, [.ref (u 13), .ref (u 17), .int 0, .int 0, .int 0]))] H := hP
  have hD : va_D A [(to, .inr (12, [.ref (u 0), .ref (u 1), .ref (u 2), .ref (u 3), .ref (u 4), .ref (u 5), .int 0, .int 0, .int 0])), ((u 0), .inl (k 3, 4, .inr (.inr (.inr (.inr (fun i => some (u (6 + i)))))))), ((u 6), .inr (4, [.ref (u 10), .ref (u 14), .int 0, .int 0, .int 0])), ((u 7), .inr (4, [.ref (u 11), .ref (u 15), .int 0, .int 0, .int 0])), ((u 8), .inr (4, [.ref (u 12), .ref (u 16), .int 0, .int 0, .int 0])), ((u 9), .inr (4, [.ref (u 13), .ref (u 17), .int 0, .int 0, .int 0]))] := hD
  refine lv_iinc (v := 3) (lv' := [(1, .int 3), (0, .ref to)]) hx hb dX11_openGraphs_17 hl (k := 0) rfl (by decide) (by decide) rfl (fun ls hl => ?_)
  refine lv_goto (tgt := 2) hx hb dX11_openGraphs_20 (by decide) ?_
  refine lv_iload_n hx hb dX11_openGraphs_2 rfl (lv_at hl 0 rfl) ?_
  refine lv_iconst (v := 4) hx hb dX11_openGraphs_3 (by decide) ?_
  refine lv_icmp_ge (tgt := 23) hx hb dX11_openGraphs_4 (by decide) (fun c_4_3 => absurd c_4_3 (by decide)) (fun c_4_3 => ?_)
  refine lv_aload_n hx hb dX11_openGraphs_7 rfl (lv_at hl 1 rfl) ?_
  refine va_get (D := D) (ci := 12) (v := .ref (u 0)) (C := RX11) (T := TX11) (N := 9) hx hb hts (by decide +kernel) hown hC.1 hP 0 rfl rfl 0 (by decide) (hts (.fieldLink RX11 11 "Triplegarth" "graphs" "[LTriplegarth$Graph;") (by decide +kernel)) (fun _ h9 => h9) rfl dX11_openGraphs_8 ?_
  refine lv_iload_n hx hb dX11_openGraphs_11 rfl (lv_at hl 0 rfl) ?_
  refine va_aldq hx hb hC.1 hP 1 3 rfl rfl (vp_in_nI (n := 3) (N := 4) (by decide) (by decide)) dX11_openGraphs_12 ?_
  refine w_topr (y := .ref (u 9)) rfl ?_
  refine lv_iconst (v := 0) hx hb dX11_openGraphs_13 (by decide) ?_
  refine va_put (D := D) (ci := 4) (v := .int 0) (ty := .boolean) (C := RX1) (T := TX1) (N := 5) hx hb hts (by decide +kernel) tyX1 tyX1_ok nmX1 hown hC.1 hP hD hS 5 rfl rfl 3 (by decide) (hts (.fieldLink RX11 261 "Triplegarth$Graph" "isClosed" "Z") (by decide +kernel)) (fun _ h9 => h9) rfl (by decide +kernel) rfl rfl (Nat.le_of_ble_eq_true rfl) dX11_openGraphs_14 (fun H locs hP hD hS => ?_)
  have hP : va_P D vwCl [(to, .inr (12, [.ref (u 0), .ref (u 1), .ref (u 2), .ref (u 3), .ref (u 4), .ref (u 5), .int 0, .int 0, .int 0])), ((u 0), .inl (k 3, 4, .inr (.inr (.inr (.inr (fun i => some (u (6 + i)))))))), ((u 6), .inr (4, [.ref (u 10), .ref (u 14), .int 0, .int 0, .int 0])), ((u 7), .inr (4, [.ref (u 11), .ref (u 15), .int 0, .int 0, .int 0])), ((u 8), .inr (4, [.ref (u 12), .ref (u 16), .int 0, .int 0, .int 0])), ((u 9), .inr (4, [.ref (u 13), .ref (u 17), .int 0, .int 0, .int 0]))] H := hP
  have hD : va_D A [(to, .inr (12, [.ref (u 0), .ref (u 1), .ref (u 2), .ref (u 3), .ref (u 4), .ref (u 5), .int 0, .int 0, .int 0])), ((u 0), .inl (k 3, 4, .inr (.inr (.inr (.inr (fun i => some (u (6 + i)))))))), ((u 6), .inr (4, [.ref (u 10), .ref (u 14), .int 0, .int 0, .int 0])), ((u 7), .inr (4, [.ref (u 11), .ref (u 15), .int 0, .int 0, .int 0])), ((u 8), .inr (4, [.ref (u 12), .ref (u 16), .int 0, .int 0, .int 0])), ((u 9), .inr (4, [.ref (u 13), .ref (u 17), .int 0, .int 0, .int 0]))] := hD
  refine lv_iinc (v := 4) (lv' := [(1, .int 4), (0, .ref to)]) hx hb dX11_openGraphs_17 hl (k := 0) rfl (by decide) (by decide) rfl (fun ls hl => ?_)
  refine lv_goto (tgt := 2) hx hb dX11_openGraphs_20 (by decide) ?_
  refine lv_iload_n hx hb dX11_openGraphs_2 rfl (lv_at hl 0 rfl) ?_
  refine lv_iconst (v := 4) hx hb dX11_openGraphs_3 (by decide) ?_
  refine lv_icmp_ge (tgt := 23) hx hb dX11_openGraphs_4 (by decide) (fun c_4_4 => ?_) (fun c_4_4 => absurd (by decide) c_4_4)
  refine lv_aload_n hx hb dX11_openGraphs_23 rfl (lv_at hl 1 rfl) ?_
  have hPc := hP.sub (ws' := [(to, .inr (12, [.ref (u 0), .ref (u 1), .ref (u 2), .ref (u 3), .ref (u 4), .ref (u 5), .int 0, .int 0, .int 0]))]) [0] rfl
  have hDc := hD.sub (ws' := [(to, .inr (12, [.ref (u 0), .ref (u 1), .ref (u 2), .ref (u 3), .ref (u 4), .ref (u 5), .int 0, .int 0, .int 0]))]) [0] (by decide) rfl
  have hFc := va_free (wc := [(to, .inr (12, [.ref (u 0), .ref (u 1), .ref (u 2), .ref (u 3), .ref (u 4), .ref (u 5), .int 0, .int 0, .int 0]))]) hD hS hA [0] rfl
  refine va_callv (va_runV (As := []) (rest := []) ⟨hx, hb, hml, hown, hts⟩ (k_X11_forgetRows l D k e0 H.size to u 0) (cwV 0 hts gX11_openGraphs_X11_forgetRows rfl rfl rfl (by decide +kernel) ⟨Nat.le_of_ble_eq_true rfl, Nat.le_of_ble_eq_true rfl⟩) ⟨mPc_fb, va_recv hC.1 hPc (ci := 12) (q0 := 0) rfl rfl, mPc_go hC hHf hS hPc hDc hFc⟩ rfl rfl hl.1 rfl (lv_room (Nat.le_of_ble_eq_true rfl)) dX11_openGraphs_24 ⟨Nat.le_of_ble_eq_true rfl, Nat.le_of_ble_eq_true rfl⟩) hS (fun q9 _ h9 => hFc q9 h9) hFc (fun u1 t H locs ht hvm hw_r2 hB hz1 hk1 hS => ?_)
  obtain ⟨hP1, hD1⟩ := hB
  rw [ht] at hP1
  obtain ⟨hP, hD⟩ := va_join (wr := [((u 0), .inl (k 3, 4, .inr (.inr (.inr (.inr (fun i => some (u (6 + i)))))))), ((u 6), .inr (4, [.ref (u 10), .ref (u 14), .int 0, .int 0, .int 0])), ((u 7), .inr (4, [.ref (u 11), .ref (u 15), .int 0, .int 0, .int 0])), ((u 8), .inr (4, [.ref (u 12), .ref (u 16), .int 0, .int 0, .int 0])), ((u 9), .inr (4, [.ref (u 13), .ref (u 17), .int 0, .int 0, .int 0]))]) (w1 := [(to, .inr (12, [.ref (u 0), .ref (u 1), .ref (u 2), .ref (u 3), .ref (u 4), .ref (u 5), .int 0, .int 0, .int 0]))]) hP hD [0] [1, 2, 3, 4, 5] rfl rfl (by decide) (by decide) hk1 hFc hP1 hD1
  have hP : va_P D vwCl [((u 0), .inl (k 3, 4, .inr (.inr (.inr (.inr (fun i => some (u (6 + i)))))))), ((u 6), .inr (4, [.ref (u 10), .ref (u 14), .int 0, .int 0, .int 0])), ((u 7), .inr (4, [.ref (u 11), .ref (u 15), .int 0, .int 0, .int 0])), ((u 8), .inr (4, [.ref (u 12), .ref (u 16), .int 0, .int 0, .int 0])), ((u 9), .inr (4, [.ref (u 13), .ref (u 17), .int 0, .int 0, .int 0])), (to, .inr (12, [.ref (u 0), .ref (u 1), .ref (u 2), .ref (u 3), .ref (u 4), .ref (u 5), .int 0, .int 0, .int 0]))] H := hP
  have hD : va_D A [((u 0), .inl (k 3, 4, .inr (.inr (.inr (.inr (fun i => some (u (6 + i)))))))), ((u 6), .inr (4, [.ref (u 10), .ref (u 14), .int 0, .int 0, .int 0])), ((u 7), .inr (4, [.ref (u 11), .ref (u 15), .int 0, .int 0, .int 0])), ((u 8), .inr (4, [.ref (u 12), .ref (u 16), .int 0, .int 0, .int 0])), ((u 9), .inr (4, [.ref (u 13), .ref (u 17), .int 0, .int 0, .int 0])), (to, .inr (12, [.ref (u 0), .ref (u 1), .ref (u 2), .ref (u 3), .ref (u 4), .ref (u 5), .int 0, .int 0, .int 0]))] := hD
  exact W.vret hx hb hr (fun t ht hW => ⟨⟨(), rfl, trivial, ⟨by rw [ht]; exact hP.sub [5] rfl, hD.sub [5] (by decide) rfl⟩⟩, hS.F ht⟩) hS.2.2 dX11_openGraphs_27

set_option maxHeartbeats 4000000 in
set_option maxRecDepth 100000 in
theorem k_X11_closed (l : Launch) (D : va_G) (k : Nat → ClassId) (e0 : Nat) (sz : Nat) (to : Nat) (u : Nat → Nat) (j : Nat) (hj : j < 4) : Met l yX11_closed wsX11_closed ({ frames := 3, cells := 0, slots := 0, locals := 71 }) (mPc D k e0 sz [.ref to, .int (nI j)] [(to, .inr (12, [.ref (u 0), .ref (u 1), .ref (u 2), .ref (u 3), .ref (u 4), .ref (u 5), .int 0, .int 0, .int 0])), ((u 0), .inl (k 3, 4, .inr (.inr (.inr (.inr (fun i => some (u (6 + i)))))))), ((u 1), .inr (2, [.int 0, .ref e0, .int 0])), ((u (6 + j)), .inr (4, [.ref (u (10 + j)), .ref (u (14 + j)), .int 0, .int 0, .int 0])), ((u (10 + j)), .inl (k 0, 768, .inl (fun _ => 0))), ((u (14 + j)), .inr (8, [.ref (u (18 + j)), .int 1, .ref (u (22 + j))])), ((u (18 + j)), .inl (k 1, 768, .inr (.inl (fun _ => 0))))]) (va_Qr (fun (_ : Unit) => True) (fun _ a t => a = u (6 + j) ∧ va_P D vwCl [((u (6 + j)), .inr (4, [.ref (u (10 + j)), .ref (u (14 + j)), .int 0, .int 1, .int 0])), ((u (14 + j)), .inr (8, [.ref (u (18 + j)), .int 1, .ref (u (22 + j))])), ((u (18 + j)), .inl (k 1, 768, .inr (.inl (fun _ => 0))))] t.heap ∧ va_D (va_A [(to, .inr (12, [.ref (u 0), .ref (u 1), .ref (u 2), .ref (u 3), .ref (u 4), .ref (u 5), .int 0, .int 0, .int 0])), ((u 0), .inl (k 3, 4, .inr (.inr (.inr (.inr (fun i => some (u (6 + i)))))))), ((u 1), .inr (2, [.int 0, .ref e0, .int 0])), ((u (6 + j)), .inr (4, [.ref (u (10 + j)), .ref (u (14 + j)), .int 0, .int 0, .int 0])), ((u (10 + j)), .inl (k 0, 768, .inl (fun _ => 0))), ((u (14 + j)), .inr (8, [.ref (u (18 + j)), .int 1, .ref (u (22 + j))])), ((u (18 + j)), .inl (k 1, 768, .inr (.inl (fun _ => 0))))] sz) [((u (6 + j)), .inr (4, [.ref (u (10 + j)), .ref (u (14 + j)), .int 0, .int 1, .int 0])), ((u (14 + j)), .inr (8, [.ref (u (18 + j)), .int 1, .ref (u (22 + j))])), ((u (18 + j)), .inl (k 1, 768, .inr (.inl (fun _ => 0))))]) (va_A [(to, .inr (12, [.ref (u 0), .ref (u 1), .ref (u 2), .ref (u 3), .ref (u 4), .ref (u 5), .int 0, .int 0, .int 0])), ((u 0), .inl (k 3, 4, .inr (.inr (.inr (.inr (fun i => some (u (6 + i)))))))), ((u 1), .inr (2, [.int 0, .ref e0, .int 0])), ((u (6 + j)), .inr (4, [.ref (u (10 + j)), .ref (u (14 + j)), .int 0, .int 0, .int 0])), ((u (10 + j)), .inl (k 0, 768, .inl (fun _ => 0))), ((u (14 + j)), .inr (8, [.ref (u (18 + j)), .int 1, .ref (u (22 + j))])), ((u (18 + j)), .inl (k 1, 768, .inr (.inl (fun _ => 0))))] sz)) 0 0 (va_A [(to, .inr (12, [.ref (u 0), .ref (u 1), .ref (u 2), .ref (u 3), .ref (u 4), .ref (u 5), .int 0, .int 0, .int 0])), ((u 0), .inl (k 3, 4, .inr (.inr (.inr (.inr (fun i => some (u (6 + i)))))))), ((u 1), .inr (2, [.int 0, .ref e0, .int 0])), ((u (6 + j)), .inr (4, [.ref (u (10 + j)), .ref (u (14 + j)), .int 0, .int 0, .int 0])), ((u (10 + j)), .inl (k 0, 768, .inl (fun _ => 0))), ((u (14 + j)), .inr (8, [.ref (u (18 + j)), .int 1, .ref (u (22 + j))])), ((u (18 + j)), .inl (k 1, 768, .inr (.inl (fun _ => 0))))] sz) := by
  refine Met.ofW (cc := cX11_closed) (maxL := 2) (ret := (some (.object "Triplegarth$Graph"))) (by decide) rfl ?_
  intro p e s m args below meth c s₁ B hml hv
  obtain ⟨rfl, rfl, hP, hC, hD0, hHf⟩ := hv
  have hx := B.exec
  have hb := B.bytes
  have hr := B.returns
  have hts := atoms_spec (ws := wsX11_closed) B.pre
  have hown : s.vm.findClass RX11 = some m.cls := findClass_of_methodNamed B.named
  have hlocks := B.notSynchronized
  have hD := hD0.self (sz := s.heap.size)
  generalize hAe : va_A [(to, .inr (12, [.ref (u 0), .ref (u 1), .ref (u 2), .ref (u 3), .ref (u 4), .ref (u 5), .int 0, .int 0, .int 0])), ((u 0), .inl (k 3, 4, .inr (.inr (.inr (.inr (fun i => some (u (6 + i)))))))), ((u 1), .inr (2, [.int 0, .ref e0, .int 0])), ((u (6 + j)), .inr (4, [.ref (u (10 + j)), .ref (u (14 + j)), .int 0, .int 0, .int 0])), ((u (10 + j)), .inl (k 0, 768, .inl (fun _ => 0))), ((u (14 + j)), .inr (8, [.ref (u (18 + j)), .int 1, .ref (u (22 + j))])), ((u (18 + j)), .inl (k 1, 768, .inr (.inl (fun _ => 0))))] s.heap.size = A at hD hHf ⊢
  have hA : ∀ q : Nat, s.heap.size ≤ q → A q := fun q h => by rw [← hAe]; exact Or.inr h
  have hS : va_S A s.heap s.heap [] := va_S.rf
  refine w_entry (Nat.le_of_ble_eq_true rfl) (fun ls hl => ?_)
  have hl : lv_has ls 2 [(0, .ref to), (1, .int (nI j))] := hl
  refine lv_aload_n hx hb dX11_closed_0 rfl (lv_at hl 0 rfl) ?_
  refine va_get (D := D) (ci := 12) (v := .ref (u 0)) (C := RX11) (T := TX11) (N := 9) hx hb hts (by decide +kernel) hown hC.1 hP 0 rfl rfl 0 (by decide) (hts (.fieldLink RX11 11 "Triplegarth" "graphs" "[LTriplegarth$Graph;") (by decide +kernel)) (fun _ h9 => h9) rfl dX11_closed_1 ?_
  refine lv_iload_n hx hb dX11_closed_4 rfl (lv_at hl 1 rfl) ?_
  refine va_aldq hx hb hC.1 hP 1 3 rfl rfl (vp_in_nI (show j < 4 by omega) (by decide)) dX11_closed_5 ?_
  refine w_topr (y := .ref (u (6 + j))) (by rw [nI_clamp (show j < 2 ^ 31 by omega)]; rfl) ?_
  refine lv_aload_n hx hb dX11_closed_6 rfl (lv_at hl 0 rfl) ?_
  refine va_get (D := D) (ci := 12) (v := .ref (u 1)) (C := RX11) (T := TX11) (N := 9) hx hb hts (by decide +kernel) hown hC.1 hP 0 rfl rfl 1 (by decide) (hts (.fieldLink RX11 18 "Triplegarth" "rules" "Ljava/util/ArrayList;") (by decide +kernel)) (fun _ h9 => h9) rfl dX11_closed_7 ?_
  have hPc := hP.sub (ws' := [((u (6 + j)), .inr (4, [.ref (u (10 + j)), .ref (u (14 + j)), .int 0, .int 0, .int 0])), ((u (10 + j)), .inl (k 0, 768, .inl (fun _ => 0))), ((u (14 + j)), .inr (8, [.ref (u (18 + j)), .int 1, .ref (u (22 + j))])), ((u (18 + j)), .inl (k 1, 768, .inr (.inl (fun _ => 0)))), ((u 1), .inr (2, [.int 0, .ref e0, .int 0]))]) [3, 4, 5, 6, 2] rfl
  have hDc := hD.sub (ws' := [((u (6 + j)), .inr (4, [.ref (u (10 + j)), .ref (u (14 + j)), .int 0, .int 0, .int 0])), ((u (10 + j)), .inl (k 0, 768, .inl (fun _ => 0))), ((u (14 + j)), .inr (8, [.ref (u (18 + j)), .int 1, .ref (u (22 + j))])), ((u (18 + j)), .inl (k 1, 768, .inr (.inl (fun _ => 0)))), ((u 1), .inr (2, [.int 0, .ref e0, .int 0]))]) [3, 4, 5, 6, 2] (by decide) rfl
  have hFc := va_free (wc := [((u (6 + j)), .inr (4, [.ref (u (10 + j)), .ref (u (14 + j)), .int 0, .int 0, .int 0])), ((u (10 + j)), .inl (k 0, 768, .inl (fun _ => 0))), ((u (14 + j)), .inr (8, [.ref (u (18 + j)), .int 1, .ref (u (22 + j))])), ((u (18 + j)), .inl (k 1, 768, .inr (.inl (fun _ => 0)))), ((u 1), .inr (2, [.int 0, .ref e0, .int 0]))]) hD hS hA [3, 4, 5, 6, 2] rfl
  refine va_callv (va_runV (As := [.ref (u 1)]) (rest := []) ⟨hx, hb, hml, hown, hts⟩ (k_X1_close l D k e0 s.heap.size (u (6 + j)) (u (10 + j)) (u (14 + j)) (u (18 + j)) (u (22 + j)) (u 1)) (cwV 1 hts gX11_closed_X1_close rfl rfl rfl (by decide +kernel) ⟨Nat.le_of_ble_eq_true rfl, Nat.le_of_ble_eq_true rfl⟩) ⟨mPc_fb, va_recv hC.1 hPc (ci := 4) (q0 := 0) rfl rfl, mPc_go hC hHf hS hPc hDc hFc⟩ rfl rfl hl.1 rfl (lv_room (Nat.le_of_ble_eq_true rfl)) dX11_closed_10 ⟨Nat.le_of_ble_eq_true rfl, Nat.le_of_ble_eq_true rfl⟩) hS (fun q9 _ h9 => hFc q9 h9) hFc (fun u1 t H locs ht hvm hw_r2 hB hz1 hk1 hS => ?_)
  obtain ⟨hP1, hD1⟩ := hB
  rw [ht] at hP1
  obtain ⟨hP, hD⟩ := va_join (wr := [(to, .inr (12, [.ref (u 0), .ref (u 1), .ref (u 2), .ref (u 3), .ref (u 4), .ref (u 5), .int 0, .int 0, .int 0])), ((u 0), .inl (k 3, 4, .inr (.inr (.inr (.inr (fun i => some (u (6 + i))))))))]) (w1 := [((u (6 + j)), .inr (4, [.ref (u (10 + j)), .ref (u (14 + j)), .int 0, .int 1, .int 0])), ((u (14 + j)), .inr (8, [.ref (u (18 + j)), .int 1, .ref (u (22 + j))])), ((u (18 + j)), .inl (k 1, 768, .inr (.inl (fun _ => 0))))]) hP hD [3, 4, 5, 6, 2] [0, 1] rfl rfl (by decide) (by decide) hk1 hFc hP1 hD1
  have hP : va_P D vwCl [(to, .inr (12, [.ref (u 0), .ref (u 1), .ref (u 2), .ref (u 3), .ref (u 4), .ref (u 5), .int 0, .int 0, .int 0])), ((u 0), .inl (k 3, 4, .inr (.inr (.inr (.inr (fun i => some (u (6 + i)))))))), ((u (6 + j)), .inr (4, [.ref (u (10 + j)), .ref (u (14 + j)), .int 0, .int 1, .int 0])), ((u (14 + j)), .inr (8, [.ref (u (18 + j)), .int 1, .ref (u (22 + j))])), ((u (18 + j)), .inl (k 1, 768, .inr (.inl (fun _ => 0))))] H := hP
  have hD : va_D A [(to, .inr (12, [.ref (u 0), .ref (u 1), .ref (u 2), .ref (u 3), .ref (u 4), .ref (u 5), .int 0, .int 0, .int 0])), ((u 0), .inl (k 3, 4, .inr (.inr (.inr (.inr (fun i => some (u (6 + i)))))))), ((u (6 + j)), .inr (4, [.ref (u (10 + j)), .ref (u (14 + j)), .int 0, .int 1, .int 0])), ((u (14 + j)), .inr (8, [.ref (u (18 + j)), .int 1, .ref (u (22 + j))])), ((u (18 + j)), .inl (k 1, 768, .inr (.inl (fun _ => 0))))] := hD
  refine lv_aload_n hx hb dX11_closed_13 rfl (lv_at hl 0 rfl) ?_
  refine va_get (D := D) (ci := 12) (v := .ref (u 0)) (C := RX11) (T := TX11) (N := 9) hx hb hts (by decide +kernel) hown hC.1 hP 0 rfl rfl 0 (by decide) (hts (.fieldLink RX11 11 "Triplegarth" "graphs" "[LTriplegarth$Graph;") (by decide +kernel)) (fun _ h9 => h9) rfl dX11_closed_14 ?_
  refine lv_iload_n hx hb dX11_closed_17 rfl (lv_at hl 1 rfl) ?_
  refine va_aldq hx hb hC.1 hP 1 3 rfl rfl (vp_in_nI (show j < 4 by omega) (by decide)) dX11_closed_18 ?_
  refine w_topr (y := .ref (u (6 + j))) (by rw [nI_clamp (show j < 2 ^ 31 by omega)]; rfl) ?_
  exact W.aret (v := .ref (u (6 + j))) hx hb hr (Or.inl ⟨_, rfl⟩) (Or.inr ⟨_, rfl⟩) (fun t ht hW => ⟨⟨(), (u (6 + j)), rfl, trivial, ⟨rfl, by rw [ht]; exact hP.sub [2, 3, 4] rfl, hD.sub [2, 3, 4] (by decide) rfl⟩⟩, hS.F ht⟩) hS.2.2 dX11_closed_19

set_option maxHeartbeats 4000000 in
set_option maxRecDepth 100000 in
theorem k_X11_closeSeenGraphs (l : Launch) (D : va_G) (k : Nat → ClassId) (h0 : Heap) (to : Nat) (u : Nat → Nat) (hP : va_P D vwCl [(to, .inr (12, [.ref (u 0), .ref (u 1), .ref (u 2), .ref (u 3), .ref (u 4), .ref (u 5), .int 0, .int 0, .int 0]))] h0)  : Met l yX11_closeSeenGraphs wsX11_closeSeenGraphs ({ frames := 0, cells := 0, slots := 0, locals := 0 }) (pPc D k [.ref to] h0) (va_Qv (fun (_ : Unit) => True) (fun _ t => t.heap = h0) (fun _ => False)) 0 0 (fun _ => False) := by
  refine Met.ofW (cc := cX11_closeSeenGraphs) (maxL := 2) (ret := none) (by decide) rfl ?_
  intro p e s m args below meth c s₁ B hml hv
  obtain ⟨rfl, rfl, hC⟩ := hv
  have hx := B.exec
  have hb := B.bytes
  have hr := B.returns
  have hts := atoms_spec (ws := wsX11_closeSeenGraphs) B.pre
  have hown : s.vm.findClass RX11 = some m.cls := findClass_of_methodNamed B.named
  have hlocks := B.notSynchronized
  have hS : va_S (fun _ => False) s.heap s.heap [] := va_S.rf
  refine w_entry (Nat.le_of_ble_eq_true rfl) (fun ls hl => ?_)
  have hl : lv_has ls 2 [(0, .ref to)] := hl
  refine lv_iconst (v := 0) hx hb dX11_closeSeenGraphs_0 (by decide) ?_
  refine lv_istore_n (lv' := [(1, .int 0), (0, .ref to)]) hx hb dX11_closeSeenGraphs_1 rfl hl (by decide) rfl (fun ls hl => ?_)
  refine lv_aload_n hx hb dX11_closeSeenGraphs_2 rfl (lv_at hl 1 rfl) ?_
  refine va_get (D := D) (ci := 12) (v := .int 0) (C := RX11) (T := TX11) (N := 9) hx hb hts (by decide +kernel) hown hC.1 hP 0 rfl rfl 6 (by decide) (hts (.fieldLink RX11 38 "Triplegarth" "isEntailed" "Z") (by decide +kernel)) (fun _ h9 => h9) rfl dX11_closeSeenGraphs_3 ?_
  refine lv_if_eq (tgt := 33) hx hb dX11_closeSeenGraphs_6 (by decide) (fun c_6 => ?_) (fun c_6 => absurd (by decide) c_6)
  exact W.vret hx hb hr (fun t ht hW => ⟨⟨(), rfl, trivial, ht⟩, hS.F ht⟩) hS.2.2 dX11_closeSeenGraphs_33

set_option maxHeartbeats 4000000 in
set_option maxRecDepth 100000 in
theorem k_X11_reckonTo (l : Launch) (D : va_G) (k : Nat → ClassId) (h0 : Heap) (to : Nat) (u : Nat → Nat) (hP : va_P D vwCl [(to, .inr (12, [.ref (u 0), .ref (u 1), .ref (u 2), .ref (u 3), .ref (u 4), .ref (u 5), .int 0, .int 0, .int 0]))] h0)  : Met l yX11_reckonTo wsX11_reckonTo ({ frames := 1, cells := 0, slots := 0, locals := 21 }) (pPc D k [.ref to, .int (-1)] h0) (va_Qv (fun (_ : Unit) => True) (fun _ t => t.heap = h0) (fun _ => False)) 0 0 (fun _ => False) := by
  refine Met.ofW (cc := cX11_reckonTo) (maxL := 3) (ret := none) (by decide) rfl ?_
  intro p e s m args below meth c s₁ B hml hv
  obtain ⟨rfl, rfl, hC⟩ := hv
  have hx := B.exec
  have hb := B.bytes
  have hr := B.returns
  have hts := atoms_spec (ws := wsX11_reckonTo) B.pre
  have hown : s.vm.findClass RX11 = some m.cls := findClass_of_methodNamed B.named
  have hlocks := B.notSynchronized
  have hS : va_S (fun _ => False) s.heap s.heap [] := va_S.rf
  refine w_entry (Nat.le_of_ble_eq_true rfl) (fun ls hl => ?_)
  have hl : lv_has ls 3 [(0, .ref to), (1, .int (-1))] := hl
  refine lv_aload_n hx hb dX11_reckonTo_0 rfl (lv_at hl 0 rfl) ?_
  refine pz_v (va_runV (As := []) (rest := []) ⟨hx, hb, hml, hown, hts⟩ (k_X11_closeSeenGraphs l D k s.heap to u (hP.sub [0] rfl)) (cwV 0 hts gX11_reckonTo_X11_closeSeenGraphs rfl rfl rfl (by decide +kernel) ⟨Nat.le_of_ble_eq_true rfl, Nat.le_of_ble_eq_true rfl⟩) ⟨pPc_fb, va_recv hC.1 hP (ci := 12) (q0 := 0) rfl rfl, pPc_go hC⟩ rfl rfl hl.1 rfl (lv_room (Nat.le_of_ble_eq_true rfl)) dX11_reckonTo_1 ⟨Nat.le_of_ble_eq_true rfl, Nat.le_of_ble_eq_true rfl⟩) hS (fun locs hS => ?_)
  refine lv_aload_n hx hb dX11_reckonTo_4 rfl (lv_at hl 0 rfl) ?_
  refine va_get (D := D) (ci := 12) (v := .int 0) (C := RX11) (T := TX11) (N := 9) hx hb hts (by decide +kernel) hown hC.1 hP 0 rfl rfl 7 (by decide) (hts (.fieldLink RX11 42 "Triplegarth" "reckoned" "I") (by decide +kernel)) (fun _ h9 => h9) rfl dX11_reckonTo_5 ?_
  refine lv_istore_n (lv' := [(2, .int 0), (0, .ref to), (1, .int (-1))]) hx hb dX11_reckonTo_8 rfl hl (by decide) rfl (fun ls hl => ?_)
  refine lv_iload_n hx hb dX11_reckonTo_9 rfl (lv_at hl 0 rfl) ?_
  refine lv_iload_n hx hb dX11_reckonTo_10 rfl (lv_at hl 2 rfl) ?_
  refine lv_icmp_gt (tgt := 66) hx hb dX11_reckonTo_11 (by decide) (fun c_11 => ?_) (fun c_11 => absurd (by decide) c_11)
  exact W.vret hx hb hr (fun t ht hW => ⟨⟨(), rfl, trivial, ht⟩, hS.F ht⟩) hS.2.2 dX11_reckonTo_66

set_option maxHeartbeats 4000000 in
set_option maxRecDepth 100000 in
theorem k_X11_tryTo (l : Launch) (D : va_G) (k : Nat → ClassId) (h0 : Heap) (to : Nat) (u : Nat → Nat) (hP : va_P D vwCl [(to, .inr (12, [.ref (u 0), .ref (u 1), .ref (u 2), .ref (u 3), .ref (u 4), .ref (u 5), .int 0, .int 0, .int 0]))] h0)  : Met l yX11_tryTo wsX11_tryTo ({ frames := 1, cells := 0, slots := 0, locals := 21 }) (pPc D k [.ref to, .int (-1)] h0) (va_Qv (fun (_ : Unit) => True) (fun _ t => t.heap = h0) (fun _ => False)) 0 0 (fun _ => False) := by
  refine Met.ofW (cc := cX11_tryTo) (maxL := 3) (ret := none) (by decide) rfl ?_
  intro p e s m args below meth c s₁ B hml hv
  obtain ⟨rfl, rfl, hC⟩ := hv
  have hx := B.exec
  have hb := B.bytes
  have hr := B.returns
  have hts := atoms_spec (ws := wsX11_tryTo) B.pre
  have hown : s.vm.findClass RX11 = some m.cls := findClass_of_methodNamed B.named
  have hlocks := B.notSynchronized
  have hS : va_S (fun _ => False) s.heap s.heap [] := va_S.rf
  refine w_entry (Nat.le_of_ble_eq_true rfl) (fun ls hl => ?_)
  have hl : lv_has ls 3 [(0, .ref to), (1, .int (-1))] := hl
  refine lv_aload_n hx hb dX11_tryTo_0 rfl (lv_at hl 0 rfl) ?_
  refine pz_v (va_runV (As := []) (rest := []) ⟨hx, hb, hml, hown, hts⟩ (k_X11_closeSeenGraphs l D k s.heap to u (hP.sub [0] rfl)) (cwV 0 hts gX11_tryTo_X11_closeSeenGraphs rfl rfl rfl (by decide +kernel) ⟨Nat.le_of_ble_eq_true rfl, Nat.le_of_ble_eq_true rfl⟩) ⟨pPc_fb, va_recv hC.1 hP (ci := 12) (q0 := 0) rfl rfl, pPc_go hC⟩ rfl rfl hl.1 rfl (lv_room (Nat.le_of_ble_eq_true rfl)) dX11_tryTo_1 ⟨Nat.le_of_ble_eq_true rfl, Nat.le_of_ble_eq_true rfl⟩) hS (fun locs hS => ?_)
  refine lv_aload_n hx hb dX11_tryTo_4 rfl (lv_at hl 0 rfl) ?_
  refine va_get (D := D) (ci := 12) (v := .int 0) (C := RX11) (T := TX11) (N := 9) hx hb hts (by decide +kernel) hown hC.1 hP 0 rfl rfl 8 (by decide) (hts (.fieldLink RX11 46 "Triplegarth" "tried" "I") (by decide +kernel)) (fun _ h9 => h9) rfl dX11_tryTo_5 ?_
  refine lv_istore_n (lv' := [(2, .int 0), (0, .ref to), (1, .int (-1))]) hx hb dX11_tryTo_8 rfl hl (by decide) rfl (fun ls hl => ?_)
  refine lv_iload_n hx hb dX11_tryTo_9 rfl (lv_at hl 0 rfl) ?_
  refine lv_iload_n hx hb dX11_tryTo_10 rfl (lv_at hl 2 rfl) ?_
  refine lv_icmp_gt (tgt := 52) hx hb dX11_tryTo_11 (by decide) (fun c_11 => ?_) (fun c_11 => absurd (by decide) c_11)
  exact W.vret hx hb hr (fun t ht hW => ⟨⟨(), rfl, trivial, ht⟩, hS.F ht⟩) hS.2.2 dX11_tryTo_52

set_option maxHeartbeats 4000000 in
set_option maxRecDepth 100000 in
theorem k_X11_needRoomForQuery (l : Launch) (D : va_G) (k : Nat → ClassId) (h0 : Heap) (to : Nat) (u : Nat → Nat) (e0 : Nat) (hP : va_P D vwCl [(to, .inr (12, [.ref (u 0), .ref (u 1), .ref (u 2), .ref (u 3), .ref (u 4), .ref (u 5), .int 0, .int 0, .int 0])), ((u 2), .inr (2, [.int 0, .ref e0, .int 0]))] h0)  : Met l yX11_needRoomForQuery wsX11_needRoomForQuery ({ frames := 1, cells := 0, slots := 0, locals := 20 }) (pPc D k [.ref to] h0) (va_Qv (fun (_ : Unit) => True) (fun _ t => t.heap = h0) (fun _ => False)) 0 0 (fun _ => False) := by
  refine Met.ofW (cc := cX11_needRoomForQuery) (maxL := 1) (ret := none) (by decide) rfl ?_
  intro p e s m args below meth c s₁ B hml hv
  obtain ⟨rfl, rfl, hC⟩ := hv
  have hx := B.exec
  have hb := B.bytes
  have hr := B.returns
  have hts := atoms_spec (ws := wsX11_needRoomForQuery) B.pre
  have hown : s.vm.findClass RX11 = some m.cls := findClass_of_methodNamed B.named
  have hlocks := B.notSynchronized
  have hS : va_S (fun _ => False) s.heap s.heap [] := va_S.rf
  refine w_entry (Nat.le_of_ble_eq_true rfl) (fun ls hl => ?_)
  have hl : lv_has ls 1 [(0, .ref to)] := hl
  refine lv_aload_n hx hb dX11_needRoomForQuery_0 rfl (lv_at hl 0 rfl) ?_
  refine va_get (D := D) (ci := 12) (v := .ref (u 2)) (C := RX11) (T := TX11) (N := 9) hx hb hts (by decide +kernel) hown hC.1 hP 0 rfl rfl 2 (by decide) (hts (.fieldLink RX11 22 "Triplegarth" "queries" "Ljava/util/ArrayList;") (by decide +kernel)) (fun _ h9 => h9) rfl dX11_needRoomForQuery_1 ?_
  refine pz_i (va_runV (As := []) (rest := []) ⟨hx, hb, hml, hown, hts⟩ (k_Jx4a65c_size_8abf5 l D k s.heap (u 2) e0 0 0 (hP.sub [1] rfl)) (cwV 0 hts gX11_needRoomForQuery_Jx4a65c_size_8abf5 rfl rfl rfl (by decide +kernel) ⟨Nat.le_of_ble_eq_true rfl, Nat.le_of_ble_eq_true rfl⟩) ⟨pPc_fb, va_recv hC.1 hP (ci := 2) (q0 := 1) rfl rfl, pPc_go hC⟩ rfl rfl hl.1 rfl (lv_room (Nat.le_of_ble_eq_true rfl)) dX11_needRoomForQuery_4 ⟨Nat.le_of_ble_eq_true rfl, Nat.le_of_ble_eq_true rfl⟩) hS (fun r1 locs hw_r1 hS => ?_)
  subst hw_r1
  refine lv_bipush (v := 20) hx hb dX11_needRoomForQuery_7 (by decide) ?_
  refine lv_icmp_lt (tgt := 20) hx hb dX11_needRoomForQuery_9 (by decide) (fun c_9 => ?_) (fun c_9 => absurd (by decide) c_9)
  exact W.vret hx hb hr (fun t ht hW => ⟨⟨(), rfl, trivial, ht⟩, hS.F ht⟩) hS.2.2 dX11_needRoomForQuery_20

set_option maxHeartbeats 4000000 in
set_option maxRecDepth 100000 in
theorem k_X11_numbered (l : Launch) (D : va_G) (k : Nat → ClassId) (e0 : Nat) (sz : Nat) (rC : vw_C) (ci : Nat) (vs : List Value) (hci : vwCl[ci]? = some rC) (to : Nat) (u : Nat → Nat) (v : Nat) (hcx : ∀ U : State, wCx D k U → va_Nw (.castable rC.1 "java/lang/Object") U) : Met l yX11_numbered wsX11_numbered ({ frames := 5, cells := 1, slots := 10, locals := 127 }) (mPc D k e0 sz [.ref to, .ref v] [(to, .inr (12, [.ref (u 0), .ref (u 1), .ref (u 2), .ref (u 3), .ref (u 4), .ref (u 5), .int 0, .int 0, .int 0])), ((u 2), .inr (2, [.int 0, .ref e0, .int 0])), (v, .inr (ci, vs))]) (va_Qi (fun r (_ : Unit) => r = 0) (fun _ t => True) (va_A [(to, .inr (12, [.ref (u 0), .ref (u 1), .ref (u 2), .ref (u 3), .ref (u 4), .ref (u 5), .int 0, .int 0, .int 0])), ((u 2), .inr (2, [.int 0, .ref e0, .int 0])), (v, .inr (ci, vs))] sz)) 1 10 (va_A [(to, .inr (12, [.ref (u 0), .ref (u 1), .ref (u 2), .ref (u 3), .ref (u 4), .ref (u 5), .int 0, .int 0, .int 0])), ((u 2), .inr (2, [.int 0, .ref e0, .int 0])), (v, .inr (ci, vs))] sz) := by
  refine Met.ofW (cc := cX11_numbered) (maxL := 2) (ret := (some .int)) (by decide) rfl ?_
  intro p e s m args below meth c s₁ B hml hv
  obtain ⟨rfl, rfl, hP, hC, hD0, hHf⟩ := hv
  have hx := B.exec
  have hb := B.bytes
  have hr := B.returns
  have hts := atoms_spec (ws := wsX11_numbered) B.pre
  have hown : s.vm.findClass RX11 = some m.cls := findClass_of_methodNamed B.named
  have hlocks := B.notSynchronized
  have hD := hD0.self (sz := s.heap.size)
  generalize hAe : va_A [(to, .inr (12, [.ref (u 0), .ref (u 1), .ref (u 2), .ref (u 3), .ref (u 4), .ref (u 5), .int 0, .int 0, .int 0])), ((u 2), .inr (2, [.int 0, .ref e0, .int 0])), (v, .inr (ci, vs))] s.heap.size = A at hD hHf ⊢
  have hA : ∀ q : Nat, s.heap.size ≤ q → A q := fun q h => by rw [← hAe]; exact Or.inr h
  have hS : va_S A s.heap s.heap [] := va_S.rf
  refine w_entry (Nat.le_of_ble_eq_true rfl) (fun ls hl => ?_)
  have hl : lv_has ls 2 [(0, .ref to), (1, .ref v)] := hl
  refine lv_aload_n hx hb dX11_numbered_0 rfl (lv_at hl 0 rfl) ?_
  refine va_get (D := D) (ci := 12) (v := .ref (u 2)) (C := RX11) (T := TX11) (N := 9) hx hb hts (by decide +kernel) hown hC.1 hP 0 rfl rfl 2 (by decide) (hts (.fieldLink RX11 22 "Triplegarth" "queries" "Ljava/util/ArrayList;") (by decide +kernel)) (fun _ h9 => h9) rfl dX11_numbered_1 ?_
  refine lv_aload_n hx hb dX11_numbered_4 rfl (lv_at hl 1 rfl) ?_
  have hPc := hP.sub (ws' := [((u 2), .inr (2, [.int 0, .ref e0, .int 0])), (v, .inr (ci, vs))]) [1, 2] rfl
  have hDc := hD.sub (ws' := [((u 2), .inr (2, [.int 0, .ref e0, .int 0])), (v, .inr (ci, vs))]) [1, 2] (by decide) rfl
  have hFc := va_free (wc := [((u 2), .inr (2, [.int 0, .ref e0, .int 0])), (v, .inr (ci, vs))]) hD hS hA [1, 2] rfl
  refine va_calli (va_runV (As := [.ref v]) (rest := []) ⟨hx, hb, hml, hown, hts⟩ (k_Jx4a65c_add_9ea2d l D k e0 s.heap.size rC ci vs hci (u 2) v hcx) (cwV 1 hts gX11_numbered_Jx4a65c_add_9ea2d rfl rfl rfl (by decide +kernel) ⟨Nat.le_of_ble_eq_true rfl, Nat.le_of_ble_eq_true rfl⟩) ⟨mPc_fb, va_recv hC.1 hPc (ci := 2) (q0 := 0) rfl rfl, mPc_go hC hHf hS hPc hDc hFc⟩ rfl rfl hl.1 rfl (lv_room (Nat.le_of_ble_eq_true rfl)) dX11_numbered_5 ⟨Nat.le_of_ble_eq_true rfl, Nat.le_of_ble_eq_true rfl⟩) hS (fun q9 _ h9 => hFc q9 h9) hFc (fun r2 u1 t H locs ht hvm hw_r2 hB hz1 hk1 hS => ?_)
  obtain ⟨hP1, hD1⟩ := hB
  rw [ht] at hP1
  obtain ⟨hP, hD⟩ := va_join (wr := [(to, .inr (12, [.ref (u 0), .ref (u 1), .ref (u 2), .ref (u 3), .ref (u 4), .ref (u 5), .int 0, .int 0, .int 0]))]) (w1 := [((u 2), .inr (2, [.int 1, .ref u1, .int 1]))]) hP hD [1, 2] [0] rfl rfl (by decide) (by decide) hk1 hFc hP1 hD1
  have hP : va_P D vwCl [(to, .inr (12, [.ref (u 0), .ref (u 1), .ref (u 2), .ref (u 3), .ref (u 4), .ref (u 5), .int 0, .int 0, .int 0])), ((u 2), .inr (2, [.int 1, .ref u1, .int 1]))] H := hP
  have hD : va_D A [(to, .inr (12, [.ref (u 0), .ref (u 1), .ref (u 2), .ref (u 3), .ref (u 4), .ref (u 5), .int 0, .int 0, .int 0])), ((u 2), .inr (2, [.int 1, .ref u1, .int 1]))] := hD
  subst hw_r2
  refine lv_pop hx hb dX11_numbered_8 rfl ?_
  refine lv_aload_n hx hb dX11_numbered_9 rfl (lv_at hl 0 rfl) ?_
  refine va_get (D := D) (ci := 12) (v := .ref (u 2)) (C := RX11) (T := TX11) (N := 9) hx hb hts (by decide +kernel) hown hC.1 hP 0 rfl rfl 2 (by decide) (hts (.fieldLink RX11 22 "Triplegarth" "queries" "Ljava/util/ArrayList;") (by decide +kernel)) (fun _ h9 => h9) rfl dX11_numbered_10 ?_
  refine pz_i (va_runV (As := []) (rest := []) ⟨hx, hb, hml, hown, hts⟩ (k_Jx4a65c_size_8abf5 l D k H (u 2) u1 1 1 (hP.sub [1] rfl)) (cwV 0 hts gX11_numbered_Jx4a65c_size_8abf5 rfl rfl rfl (by decide +kernel) ⟨Nat.le_of_ble_eq_true rfl, Nat.le_of_ble_eq_true rfl⟩) ⟨pPc_fb, va_recv hC.1 hP (ci := 2) (q0 := 1) rfl rfl, pPc_go hC⟩ rfl rfl hl.1 rfl (lv_room (Nat.le_of_ble_eq_true rfl)) dX11_numbered_13 ⟨Nat.le_of_ble_eq_true rfl, Nat.le_of_ble_eq_true rfl⟩) hS (fun r4 locs hw_r4 hS => ?_)
  subst hw_r4
  refine lv_iconst (v := 1) hx hb dX11_numbered_16 (by decide) ?_
  refine lv_isub hx hb dX11_numbered_17 ?_
  refine w_top (y := 0) (by decide) ?_
  exact W.iret (v := 0) hx hb hr (fun t ht hW => ⟨⟨0, (), rfl, rfl, trivial⟩, hS.F ht⟩) hS.2.2 dX11_numbered_18

set_option maxHeartbeats 4000000 in
set_option maxRecDepth 100000 in
theorem k_X12_thereShare (l : Launch) (D : va_G) (k : Nat → ClassId) (e0 : Nat) (sz : Nat) (mo : Nat) (w : Nat → Nat)  : Met l yX12_thereShare wsX12_thereShare ({ frames := 2, cells := 1, slots := 768, locals := 47 }) (mPc D k e0 sz [.ref mo] [(mo, .inr (13, [.int 0, .ref (w 0), .int 0, .ref (w 1), .int 0, .int 0, .ref (w 2), .int 0, .ref (w 3), .ref (w 4), .int 0])), ((w 0), .inl (k 5, 3, .inr (.inr (.inr (.inr (fun i => some (w (5 + i)))))))), ((w 5), .inl (k 0, 768, .inl (fun _ => 0))), ((w 6), .inl (k 0, 768, .inl (fun _ => 0))), ((w 7), .inl (k 0, 768, .inl (fun _ => 0))), ((w 1), .inl (k 6, 8, .inr (.inr (.inr (.inr (fun _ => none)))))), ((w 2), .inl (k 6, 20, .inr (.inr (.inr (.inr (fun _ => none)))))), ((w 4), .inl (k 6, 6, .inr (.inr (.inr (.inr (fun _ => none))))))]) (va_Qf (fun r (u : List Value) => u[0]? = some (.int 1)) (fun u t => va_P D vwCl [(mo, .inr (13, u))] t.heap ∧ va_D (va_A [(mo, .inr (13, [.int 0, .ref (w 0), .int 0, .ref (w 1), .int 0, .int 0, .ref (w 2), .int 0, .ref (w 3), .ref (w 4), .int 0])), ((w 0), .inl (k 5, 3, .inr (.inr (.inr (.inr (fun i => some (w (5 + i)))))))), ((w 5), .inl (k 0, 768, .inl (fun _ => 0))), ((w 6), .inl (k 0, 768, .inl (fun _ => 0))), ((w 7), .inl (k 0, 768, .inl (fun _ => 0))), ((w 1), .inl (k 6, 8, .inr (.inr (.inr (.inr (fun _ => none)))))), ((w 2), .inl (k 6, 20, .inr (.inr (.inr (.inr (fun _ => none)))))), ((w 4), .inl (k 6, 6, .inr (.inr (.inr (.inr (fun _ => none))))))] sz) [(mo, .inr (13, u))]) (va_A [(mo, .inr (13, [.int 0, .ref (w 0), .int 0, .ref (w 1), .int 0, .int 0, .ref (w 2), .int 0, .ref (w 3), .ref (w 4), .int 0])), ((w 0), .inl (k 5, 3, .inr (.inr (.inr (.inr (fun i => some (w (5 + i)))))))), ((w 5), .inl (k 0, 768, .inl (fun _ => 0))), ((w 6), .inl (k 0, 768, .inl (fun _ => 0))), ((w 7), .inl (k 0, 768, .inl (fun _ => 0))), ((w 1), .inl (k 6, 8, .inr (.inr (.inr (.inr (fun _ => none)))))), ((w 2), .inl (k 6, 20, .inr (.inr (.inr (.inr (fun _ => none)))))), ((w 4), .inl (k 6, 6, .inr (.inr (.inr (.inr (fun _ => none))))))] sz)) 1 768 (va_A [(mo, .inr (13, [.int 0, .ref (w 0), .int 0, .ref (w 1), .int 0, .int 0, .ref (w 2), .int 0, .ref (w 3), .ref (w 4), .int 0])), ((w 0), .inl (k 5, 3, .inr (.inr (.inr (.inr (fun i => some (w (5 + i)))))))), ((w 5), .inl (k 0, 768, .inl (fun _ => 0))), ((w 6), .inl (k 0, 768, .inl (fun _ => 0))), ((w 7), .inl (k 0, 768, .inl (fun _ => 0))), ((w 1), .inl (k 6, 8, .inr (.inr (.inr (.inr (fun _ => none)))))), ((w 2), .inl (k 6, 20, .inr (.inr (.inr (.inr (fun _ => none)))))), ((w 4), .inl (k 6, 6, .inr (.inr (.inr (.inr (fun _ => none))))))] sz) := by
  refine Met.ofW (cc := cX12_thereShare) (maxL := 6) (ret := (some .float)) (by decide) rfl ?_
  intro p e s m args below meth c s₁ B hml hv
  obtain ⟨rfl, rfl, hP, hC, hD0, hHf⟩ := hv
  have hx := B.exec
  have hb := B.bytes
  have hr := B.returns
  have hts := atoms_spec (ws := wsX12_thereShare) B.pre
  have hown : s.vm.findClass RX12 = some m.cls := findClass_of_methodNamed B.named
  have hlocks := B.notSynchronized
  have hD := hD0.self (sz := s.heap.size)
  generalize hAe : va_A [(mo, .inr (13, [.int 0, .ref (w 0), .int 0, .ref (w 1), .int 0, .int 0, .ref (w 2), .int 0, .ref (w 3), .ref (w 4), .int 0])), ((w 0), .inl (k 5, 3, .inr (.inr (.inr (.inr (fun i => some (w (5 + i)))))))), ((w 5), .inl (k 0, 768, .inl (fun _ => 0))), ((w 6), .inl (k 0, 768, .inl (fun _ => 0))), ((w 7), .inl (k 0, 768, .inl (fun _ => 0))), ((w 1), .inl (k 6, 8, .inr (.inr (.inr (.inr (fun _ => none)))))), ((w 2), .inl (k 6, 20, .inr (.inr (.inr (.inr (fun _ => none)))))), ((w 4), .inl (k 6, 6, .inr (.inr (.inr (.inr (fun _ => none))))))] s.heap.size = A at hD hHf ⊢
  have hA : ∀ q : Nat, s.heap.size ≤ q → A q := fun q h => by rw [← hAe]; exact Or.inr h
  have hS : va_S A s.heap s.heap [] := va_S.rf
  refine w_entry (Nat.le_of_ble_eq_true rfl) (fun ls hl => ?_)
  have hl : lv_has ls 6 [(0, .ref mo)] := hl
  refine lv_iconst (v := 0) hx hb dX12_thereShare_0 (by decide) ?_
  refine lv_istore_n (lv' := [(1, .int 0), (0, .ref mo)]) hx hb dX12_thereShare_1 rfl hl (by decide) rfl (fun ls hl => ?_)
  refine lv_aload_n hx hb dX12_thereShare_2 rfl (lv_at hl 1 rfl) ?_
  refine lv_iconst (v := 3) hx hb dX12_thereShare_3 (by decide) ?_
  have hPc := hP.sub (ws' := [(mo, .inr (13, [.int 0, .ref (w 0), .int 0, .ref (w 1), .int 0, .int 0, .ref (w 2), .int 0, .ref (w 3), .ref (w 4), .int 0])), ((w 0), .inl (k 5, 3, .inr (.inr (.inr (.inr (fun i => some (w (5 + i)))))))), ((w 5), .inl (k 0, 768, .inl (fun _ => 0))), ((w 6), .inl (k 0, 768, .inl (fun _ => 0))), ((w 7), .inl (k 0, 768, .inl (fun _ => 0))), ((w 1), .inl (k 6, 8, .inr (.inr (.inr (.inr (fun _ => none)))))), ((w 2), .inl (k 6, 20, .inr (.inr (.inr (.inr (fun _ => none)))))), ((w 4), .inl (k 6, 6, .inr (.inr (.inr (.inr (fun _ => none))))))]) [0, 1, 2, 3, 4, 5, 6, 7] rfl
  have hDc := hD.sub (ws' := [(mo, .inr (13, [.int 0, .ref (w 0), .int 0, .ref (w 1), .int 0, .int 0, .ref (w 2), .int 0, .ref (w 3), .ref (w 4), .int 0])), ((w 0), .inl (k 5, 3, .inr (.inr (.inr (.inr (fun i => some (w (5 + i)))))))), ((w 5), .inl (k 0, 768, .inl (fun _ => 0))), ((w 6), .inl (k 0, 768, .inl (fun _ => 0))), ((w 7), .inl (k 0, 768, .inl (fun _ => 0))), ((w 1), .inl (k 6, 8, .inr (.inr (.inr (.inr (fun _ => none)))))), ((w 2), .inl (k 6, 20, .inr (.inr (.inr (.inr (fun _ => none)))))), ((w 4), .inl (k 6, 6, .inr (.inr (.inr (.inr (fun _ => none))))))]) [0, 1, 2, 3, 4, 5, 6, 7] (by decide) rfl
  have hFc := va_free (wc := [(mo, .inr (13, [.int 0, .ref (w 0), .int 0, .ref (w 1), .int 0, .int 0, .ref (w 2), .int 0, .ref (w 3), .ref (w 4), .int 0])), ((w 0), .inl (k 5, 3, .inr (.inr (.inr (.inr (fun i => some (w (5 + i)))))))), ((w 5), .inl (k 0, 768, .inl (fun _ => 0))), ((w 6), .inl (k 0, 768, .inl (fun _ => 0))), ((w 7), .inl (k 0, 768, .inl (fun _ => 0))), ((w 1), .inl (k 6, 8, .inr (.inr (.inr (.inr (fun _ => none)))))), ((w 2), .inl (k 6, 20, .inr (.inr (.inr (.inr (fun _ => none)))))), ((w 4), .inl (k 6, 6, .inr (.inr (.inr (.inr (fun _ => none))))))]) hD hS hA [0, 1, 2, 3, 4, 5, 6, 7] rfl
  refine va_callr (va_runV (As := [.int 3]) (rest := []) ⟨hx, hb, hml, hown, hts⟩ (k_X12_proofs l D k e0 s.heap.size mo w 3 (by decide)) (cwV 1 hts gX12_thereShare_X12_proofs rfl rfl rfl (by decide +kernel) ⟨Nat.le_of_ble_eq_true rfl, Nat.le_of_ble_eq_true rfl⟩) ⟨mPc_fb, va_recv hC.1 hPc (ci := 13) (q0 := 0) rfl rfl, mPc_go hC hHf hS hPc hDc hFc⟩ rfl rfl hl.1 rfl (lv_room (Nat.le_of_ble_eq_true rfl)) dX12_thereShare_4 ⟨Nat.le_of_ble_eq_true rfl, Nat.le_of_ble_eq_true rfl⟩) hS (fun q9 _ h9 => hFc q9 h9) hFc (fun u1 q3 t H locs ht hvm hw_r2 hB hz1 hk1 hS => ?_)
  obtain ⟨hP1, hD1⟩ := hB
  rw [ht] at hP1
  obtain ⟨hP, hD⟩ := va_join (wr := []) (w1 := [(mo, .inr (13, [.int 0, .ref (w 0), .int 0, .ref (w 1), .int 0, .int 0, .ref (w 2), .int 0, .ref (w 3), .ref (w 4), .int 0])), (q3, .inl (k 2, 768, .inl (fun _ => 0)))]) hP hD [0, 1, 2, 3, 4, 5, 6, 7] [] rfl rfl (by decide) (by decide) hk1 hFc hP1 hD1
  have hP : va_P D vwCl [(mo, .inr (13, [.int 0, .ref (w 0), .int 0, .ref (w 1), .int 0, .int 0, .ref (w 2), .int 0, .ref (w 3), .ref (w 4), .int 0])), (q3, .inl (k 2, 768, .inl (fun _ => 0)))] H := hP
  have hD : va_D A [(mo, .inr (13, [.int 0, .ref (w 0), .int 0, .ref (w 1), .int 0, .int 0, .ref (w 2), .int 0, .ref (w 3), .ref (w 4), .int 0])), (q3, .inl (k 2, 768, .inl (fun _ => 0)))] := hD
  refine lv_astore_n (lv' := [(2, .ref q3), (1, .int 0), (0, .ref mo)]) hx hb dX12_thereShare_7 rfl hl (by decide) rfl (fun ls hl => ?_)
  refine lv_aload_n hx hb dX12_thereShare_8 rfl (lv_at hl 0 rfl) ?_
  refine va_alen hx hb hC.1 hP 1 2 rfl rfl (v := 768) (by decide) dX12_thereShare_9 ?_
  refine lv_istore_n (lv' := [(3, .int 768), (2, .ref q3), (1, .int 0), (0, .ref mo)]) hx hb dX12_thereShare_10 rfl hl (by decide) rfl (fun ls hl => ?_)
  refine lv_iconst (v := 0) hx hb dX12_thereShare_11 (by decide) ?_
  refine lv_istore (lv' := [(4, .int 0), (3, .int 768), (2, .ref q3), (1, .int 0), (0, .ref mo)]) hx hb dX12_thereShare_12 hl (by decide) rfl (fun ls hl => ?_)
  refine w_loop (N := 768) (fun i locs ls => va_S A s.heap H locs ∧ lv_has ls 6 [(4, .int (nI i)), (3, .int 768), (2, .ref q3), (1, .int 0), (0, .ref mo)]) ?_ 0 _ _ (Nat.zero_le _) ⟨hS, lv_sub hl [0, 1, 2, 3, 4] rfl⟩
  rintro i locs ls hi ⟨hS, hl⟩ ih
  refine lv_iload hx hb dX12_thereShare_14 (lv_at hl 0 rfl) ?_
  refine lv_iload_n hx hb dX12_thereShare_16 rfl (lv_at hl 1 rfl) ?_
  refine lv_icmp_ge (tgt := 45) hx hb dX12_thereShare_17 (by decide) (fun c_17 => ?_) (fun c_17 => ?_)
  · have h9 : 768 ≤ i := by have z := i32_le c_17; rw [show (768 : Int32).toInt = (768 : Int) from rfl, nI_toInt (by omega)] at z; omega
    have hi9 : i = 768 := by omega
    refine lv_aload_n hx hb dX12_thereShare_45 rfl (lv_at hl 4 rfl) ?_
    refine lv_iload_n hx hb dX12_thereShare_46 rfl (lv_at hl 3 rfl) ?_
    refine lv_if_ne (tgt := 54) hx hb dX12_thereShare_47 (by decide) (fun c_47 => absurd c_47 (by decide)) (fun c_47 => ?_)
    refine lv_iconst (v := 1) hx hb dX12_thereShare_50 (by decide) ?_
    refine lv_goto (tgt := 55) hx hb dX12_thereShare_51 (by decide) ?_
    have hPc := hP.sub (ws' := [(mo, .inr (13, [.int 0, .ref (w 0), .int 0, .ref (w 1), .int 0, .int 0, .ref (w 2), .int 0, .ref (w 3), .ref (w 4), .int 0]))]) [0] rfl
    have hDc := hD.sub (ws' := [(mo, .inr (13, [.int 0, .ref (w 0), .int 0, .ref (w 1), .int 0, .int 0, .ref (w 2), .int 0, .ref (w 3), .ref (w 4), .int 0]))]) [0] (by decide) rfl
    have hFc := va_free (wc := [(mo, .inr (13, [.int 0, .ref (w 0), .int 0, .ref (w 1), .int 0, .int 0, .ref (w 2), .int 0, .ref (w 3), .ref (w 4), .int 0]))]) hD hS hA [0] rfl
    refine va_calli (va_runV (As := [.int 1]) (rest := []) ⟨hx, hb, hml, hown, hts⟩ (k_X12_fails l D k e0 H.size mo w 0 1) (cwV 1 hts gX12_thereShare_X12_fails rfl rfl rfl (by decide +kernel) ⟨Nat.le_of_ble_eq_true rfl, Nat.le_of_ble_eq_true rfl⟩) ⟨mPc_fb, va_recv hC.1 hPc (ci := 13) (q0 := 0) rfl rfl, mPc_go hC hHf hS hPc hDc hFc⟩ rfl rfl hl.1 rfl (lv_room (Nat.le_of_ble_eq_true rfl)) dX12_thereShare_55 ⟨Nat.le_of_ble_eq_true rfl, Nat.le_of_ble_eq_true rfl⟩) hS (fun q9 _ h9 => hFc q9 h9) hFc (fun r5 u4 t H locs ht hvm hw_r5 hB hz1 hk1 hS => ?_)
    obtain ⟨hP1, hD1⟩ := hB
    rw [ht] at hP1
    obtain ⟨hP, hD⟩ := va_join (wr := [(q3, .inl (k 2, 768, .inl (fun _ => 0)))]) (w1 := [(mo, .inr (13, [.int 1, .ref (w 0), .int 0, .ref (w 1), .int 0, .int 0, .ref (w 2), .int 0, .ref (w 3), .ref (w 4), .int 0]))]) hP hD [0] [1] rfl rfl (by decide) (by decide) hk1 hFc hP1 hD1
    have hP : va_P D vwCl [(q3, .inl (k 2, 768, .inl (fun _ => 0))), (mo, .inr (13, [.int 1, .ref (w 0), .int 0, .ref (w 1), .int 0, .int 0, .ref (w 2), .int 0, .ref (w 3), .ref (w 4), .int 0]))] H := hP
    have hD : va_D A [(q3, .inl (k 2, 768, .inl (fun _ => 0))), (mo, .inr (13, [.int 1, .ref (w 0), .int 0, .ref (w 1), .int 0, .int 0, .ref (w 2), .int 0, .ref (w 3), .ref (w 4), .int 0]))] := hD
    have e_r5 : r5 = 1 := hw_r5.trans (by decide)
    subst e_r5
    refine lv_if_eq (tgt := 65) hx hb dX12_thereShare_58 (by decide) (fun c_58 => absurd c_58 (by decide)) (fun c_58 => ?_)
    refine lv_fconst0 hx hb dX12_thereShare_61 ?_
    refine lv_goto (tgt := 74) hx hb dX12_thereShare_62 (by decide) ?_
    exact W.fret (v := FP.fconst0) hx hb hr (fun t ht hW => ⟨⟨FP.fconst0, [.int 1, .ref (w 0), .int 0, .ref (w 1), .int 0, .int 0, .ref (w 2), .int 0, .ref (w 3), .ref (w 4), .int 0], rfl, rfl, ⟨by rw [ht]; exact hP.sub [1] rfl, hD.sub [1] (by decide) rfl⟩⟩, hS.F ht⟩) hS.2.2 dX12_thereShare_74
  · have hlt : i < 768 := by have z := i32_nle c_17; rw [show (768 : Int32).toInt = (768 : Int) from rfl, nI_toInt (by omega)] at z; omega
    refine lv_aload_n hx hb dX12_thereShare_20 rfl (lv_at hl 2 rfl) ?_
    refine lv_iload hx hb dX12_thereShare_21 (lv_at hl 0 rfl) ?_
    refine va_iald hx hb hC.1 hP 1 2 rfl rfl (vp_in_nI hlt (by decide)) dX12_thereShare_23 ?_
    refine w_top (y := 0) rfl ?_
    refine lv_istore (lv' := [(5, .int 0), (4, .int (nI i)), (3, .int 768), (2, .ref q3), (1, .int 0), (0, .ref mo)]) hx hb dX12_thereShare_24 hl (by decide) rfl (fun ls hl => ?_)
    refine lv_iload_n hx hb dX12_thereShare_26 rfl (lv_at hl 4 rfl) ?_
    refine lv_iload hx hb dX12_thereShare_27 (lv_at hl 0 rfl) ?_
    refine lv_if_le (tgt := 36) hx hb dX12_thereShare_29 (by decide) (fun c_29 => ?_) (fun c_29 => absurd (by decide) c_29)
    refine lv_iconst (v := 0) hx hb dX12_thereShare_36 (by decide) ?_
    refine lv_iadd hx hb dX12_thereShare_37 ?_
    refine w_top (y := 0) (by decide) ?_
    refine lv_istore_n (lv' := [(1, .int 0), (5, .int 0), (4, .int (nI i)), (3, .int 768), (2, .ref q3), (0, .ref mo)]) hx hb dX12_thereShare_38 rfl hl (by decide) rfl (fun ls hl => ?_)
    refine lv_iinc (v := nI (i + 1)) (lv' := [(4, .int (nI (i + 1))), (1, .int 0), (5, .int 0), (3, .int 768), (2, .ref q3), (0, .ref mo)]) hx hb dX12_thereShare_39 hl (k := 2) rfl (nI_1 i) (by decide) rfl (fun ls hl => ?_)
    refine lv_goto (tgt := 14) hx hb dX12_thereShare_42 (by decide) ?_
    exact ih locs ls hlt ⟨hS, lv_sub hl [0, 3, 4, 1, 5] rfl⟩

set_option maxHeartbeats 4000000 in
set_option maxRecDepth 100000 in
theorem k_X12_meanProof (l : Launch) (D : va_G) (k : Nat → ClassId) (e0 : Nat) (sz : Nat) (mo : Nat) (w : Nat → Nat)  : Met l yX12_meanProof wsX12_meanProof ({ frames := 2, cells := 1, slots := 768, locals := 47 }) (mPc D k e0 sz [.ref mo] [(mo, .inr (13, [.int 0, .ref (w 0), .int 0, .ref (w 1), .int 0, .int 0, .ref (w 2), .int 0, .ref (w 3), .ref (w 4), .int 0])), ((w 0), .inl (k 5, 3, .inr (.inr (.inr (.inr (fun i => some (w (5 + i)))))))), ((w 5), .inl (k 0, 768, .inl (fun _ => 0))), ((w 6), .inl (k 0, 768, .inl (fun _ => 0))), ((w 7), .inl (k 0, 768, .inl (fun _ => 0))), ((w 1), .inl (k 6, 8, .inr (.inr (.inr (.inr (fun _ => none)))))), ((w 2), .inl (k 6, 20, .inr (.inr (.inr (.inr (fun _ => none)))))), ((w 4), .inl (k 6, 6, .inr (.inr (.inr (.inr (fun _ => none))))))]) (va_Qd (fun r (u : List Value) => u[0]? = some (.int 1)) (fun u t => va_P D vwCl [(mo, .inr (13, u))] t.heap ∧ va_D (va_A [(mo, .inr (13, [.int 0, .ref (w 0), .int 0, .ref (w 1), .int 0, .int 0, .ref (w 2), .int 0, .ref (w 3), .ref (w 4), .int 0])), ((w 0), .inl (k 5, 3, .inr (.inr (.inr (.inr (fun i => some (w (5 + i)))))))), ((w 5), .inl (k 0, 768, .inl (fun _ => 0))), ((w 6), .inl (k 0, 768, .inl (fun _ => 0))), ((w 7), .inl (k 0, 768, .inl (fun _ => 0))), ((w 1), .inl (k 6, 8, .inr (.inr (.inr (.inr (fun _ => none)))))), ((w 2), .inl (k 6, 20, .inr (.inr (.inr (.inr (fun _ => none)))))), ((w 4), .inl (k 6, 6, .inr (.inr (.inr (.inr (fun _ => none))))))] sz) [(mo, .inr (13, u))]) (va_A [(mo, .inr (13, [.int 0, .ref (w 0), .int 0, .ref (w 1), .int 0, .int 0, .ref (w 2), .int 0, .ref (w 3), .ref (w 4), .int 0])), ((w 0), .inl (k 5, 3, .inr (.inr (.inr (.inr (fun i => some (w (5 + i)))))))), ((w 5), .inl (k 0, 768, .inl (fun _ => 0))), ((w 6), .inl (k 0, 768, .inl (fun _ => 0))), ((w 7), .inl (k 0, 768, .inl (fun _ => 0))), ((w 1), .inl (k 6, 8, .inr (.inr (.inr (.inr (fun _ => none)))))), ((w 2), .inl (k 6, 20, .inr (.inr (.inr (.inr (fun _ => none)))))), ((w 4), .inl (k 6, 6, .inr (.inr (.inr (.inr (fun _ => none))))))] sz)) 1 768 (va_A [(mo, .inr (13, [.int 0, .ref (w 0), .int 0, .ref (w 1), .int 0, .int 0, .ref (w 2), .int 0, .ref (w 3), .ref (w 4), .int 0])), ((w 0), .inl (k 5, 3, .inr (.inr (.inr (.inr (fun i => some (w (5 + i)))))))), ((w 5), .inl (k 0, 768, .inl (fun _ => 0))), ((w 6), .inl (k 0, 768, .inl (fun _ => 0))), ((w 7), .inl (k 0, 768, .inl (fun _ => 0))), ((w 1), .inl (k 6, 8, .inr (.inr (.inr (.inr (fun _ => none)))))), ((w 2), .inl (k 6, 20, .inr (.inr (.inr (.inr (fun _ => none)))))), ((w 4), .inl (k 6, 6, .inr (.inr (.inr (.inr (fun _ => none))))))] sz) := by
  refine Met.ofW (cc := cX12_meanProof) (maxL := 7) (ret := (some .double)) (by decide) rfl ?_
  intro p e s m args below meth c s₁ B hml hv
  obtain ⟨rfl, rfl, hP, hC, hD0, hHf⟩ := hv
  have hx := B.exec
  have hb := B.bytes
  have hr := B.returns
  have hts := atoms_spec (ws := wsX12_meanProof) B.pre
  have hown : s.vm.findClass RX12 = some m.cls := findClass_of_methodNamed B.named
  have hlocks := B.notSynchronized
  have hD := hD0.self (sz := s.heap.size)
  generalize hAe : va_A [(mo, .inr (13, [.int 0, .ref (w 0), .int 0, .ref (w 1), .int 0, .int 0, .ref (w 2), .int 0, .ref (w 3), .ref (w 4), .int 0])), ((w 0), .inl (k 5, 3, .inr (.inr (.inr (.inr (fun i => some (w (5 + i)))))))), ((w 5), .inl (k 0, 768, .inl (fun _ => 0))), ((w 6), .inl (k 0, 768, .inl (fun _ => 0))), ((w 7), .inl (k 0, 768, .inl (fun _ => 0))), ((w 1), .inl (k 6, 8, .inr (.inr (.inr (.inr (fun _ => none)))))), ((w 2), .inl (k 6, 20, .inr (.inr (.inr (.inr (fun _ => none)))))), ((w 4), .inl (k 6, 6, .inr (.inr (.inr (.inr (fun _ => none))))))] s.heap.size = A at hD hHf ⊢
  have hA : ∀ q : Nat, s.heap.size ≤ q → A q := fun q h => by rw [← hAe]; exact Or.inr h
  have hS : va_S A s.heap s.heap [] := va_S.rf
  refine w_entry (Nat.le_of_ble_eq_true rfl) (fun ls hl => ?_)
  have hl : lv_has ls 7 [(0, .ref mo)] := hl
  refine lv_iconst (v := 0) hx hb dX12_meanProof_0 (by decide) ?_
  refine lv_istore_n (lv' := [(1, .int 0), (0, .ref mo)]) hx hb dX12_meanProof_1 rfl hl (by decide) rfl (fun ls hl => ?_)
  refine lv_iconst (v := 0) hx hb dX12_meanProof_2 (by decide) ?_
  refine lv_istore_n (lv' := [(2, .int 0), (1, .int 0), (0, .ref mo)]) hx hb dX12_meanProof_3 rfl hl (by decide) rfl (fun ls hl => ?_)
  refine lv_aload_n hx hb dX12_meanProof_4 rfl (lv_at hl 2 rfl) ?_
  refine lv_iconst (v := 3) hx hb dX12_meanProof_5 (by decide) ?_
  have hPc := hP.sub (ws' := [(mo, .inr (13, [.int 0, .ref (w 0), .int 0, .ref (w 1), .int 0, .int 0, .ref (w 2), .int 0, .ref (w 3), .ref (w 4), .int 0])), ((w 0), .inl (k 5, 3, .inr (.inr (.inr (.inr (fun i => some (w (5 + i)))))))), ((w 5), .inl (k 0, 768, .inl (fun _ => 0))), ((w 6), .inl (k 0, 768, .inl (fun _ => 0))), ((w 7), .inl (k 0, 768, .inl (fun _ => 0))), ((w 1), .inl (k 6, 8, .inr (.inr (.inr (.inr (fun _ => none)))))), ((w 2), .inl (k 6, 20, .inr (.inr (.inr (.inr (fun _ => none)))))), ((w 4), .inl (k 6, 6, .inr (.inr (.inr (.inr (fun _ => none))))))]) [0, 1, 2, 3, 4, 5, 6, 7] rfl
  have hDc := hD.sub (ws' := [(mo, .inr (13, [.int 0, .ref (w 0), .int 0, .ref (w 1), .int 0, .int 0, .ref (w 2), .int 0, .ref (w 3), .ref (w 4), .int 0])), ((w 0), .inl (k 5, 3, .inr (.inr (.inr (.inr (fun i => some (w (5 + i)))))))), ((w 5), .inl (k 0, 768, .inl (fun _ => 0))), ((w 6), .inl (k 0, 768, .inl (fun _ => 0))), ((w 7), .inl (k 0, 768, .inl (fun _ => 0))), ((w 1), .inl (k 6, 8, .inr (.inr (.inr (.inr (fun _ => none)))))), ((w 2), .inl (k 6, 20, .inr (.inr (.inr (.inr (fun _ => none)))))), ((w 4), .inl (k 6, 6, .inr (.inr (.inr (.inr (fun _ => none))))))]) [0, 1, 2, 3, 4, 5, 6, 7] (by decide) rfl
  have hFc := va_free (wc := [(mo, .inr (13, [.int 0, .ref (w 0), .int 0, .ref (w 1), .int 0, .int 0, .ref (w 2), .int 0, .ref (w 3), .ref (w 4), .int 0])), ((w 0), .inl (k 5, 3, .inr (.inr (.inr (.inr (fun i => some (w (5 + i)))))))), ((w 5), .inl (k 0, 768, .inl (fun _ => 0))), ((w 6), .inl (k 0, 768, .inl (fun _ => 0))), ((w 7), .inl (k 0, 768, .inl (fun _ => 0))), ((w 1), .inl (k 6, 8, .inr (.inr (.inr (.inr (fun _ => none)))))), ((w 2), .inl (k 6, 20, .inr (.inr (.inr (.inr (fun _ => none)))))), ((w 4), .inl (k 6, 6, .inr (.inr (.inr (.inr (fun _ => none))))))]) hD hS hA [0, 1, 2, 3, 4, 5, 6, 7] rfl
  refine va_callr (va_runV (As := [.int 3]) (rest := []) ⟨hx, hb, hml, hown, hts⟩ (k_X12_proofs l D k e0 s.heap.size mo w 3 (by decide)) (cwV 1 hts gX12_meanProof_X12_proofs rfl rfl rfl (by decide +kernel) ⟨Nat.le_of_ble_eq_true rfl, Nat.le_of_ble_eq_true rfl⟩) ⟨mPc_fb, va_recv hC.1 hPc (ci := 13) (q0 := 0) rfl rfl, mPc_go hC hHf hS hPc hDc hFc⟩ rfl rfl hl.1 rfl (lv_room (Nat.le_of_ble_eq_true rfl)) dX12_meanProof_6 ⟨Nat.le_of_ble_eq_true rfl, Nat.le_of_ble_eq_true rfl⟩) hS (fun q9 _ h9 => hFc q9 h9) hFc (fun u1 q3 t H locs ht hvm hw_r2 hB hz1 hk1 hS => ?_)
  obtain ⟨hP1, hD1⟩ := hB
  rw [ht] at hP1
  obtain ⟨hP, hD⟩ := va_join (wr := []) (w1 := [(mo, .inr (13, [.int 0, .ref (w 0), .int 0, .ref (w 1), .int 0, .int 0, .ref (w 2), .int 0, .ref (w 3), .ref (w 4), .int 0])), (q3, .inl (k 2, 768, .inl (fun _ => 0)))]) hP hD [0, 1, 2, 3, 4, 5, 6, 7] [] rfl rfl (by decide) (by decide) hk1 hFc hP1 hD1
  have hP : va_P D vwCl [(mo, .inr (13, [.int 0, .ref (w 0), .int 0, .ref (w 1), .int 0, .int 0, .ref (w 2), .int 0, .ref (w 3), .ref (w 4), .int 0])), (q3, .inl (k 2, 768, .inl (fun _ => 0)))] H := hP
  have hD : va_D A [(mo, .inr (13, [.int 0, .ref (w 0), .int 0, .ref (w 1), .int 0, .int 0, .ref (w 2), .int 0, .ref (w 3), .ref (w 4), .int 0])), (q3, .inl (k 2, 768, .inl (fun _ => 0)))] := hD
  refine lv_astore_n (lv' := [(3, .ref q3), (2, .int 0), (1, .int 0), (0, .ref mo)]) hx hb dX12_meanProof_9 rfl hl (by decide) rfl (fun ls hl => ?_)
  refine lv_aload_n hx hb dX12_meanProof_10 rfl (lv_at hl 0 rfl) ?_
  refine va_alen hx hb hC.1 hP 1 2 rfl rfl (v := 768) (by decide) dX12_meanProof_11 ?_
  refine lv_istore (lv' := [(4, .int 768), (3, .ref q3), (2, .int 0), (1, .int 0), (0, .ref mo)]) hx hb dX12_meanProof_12 hl (by decide) rfl (fun ls hl => ?_)
  refine lv_iconst (v := 0) hx hb dX12_meanProof_14 (by decide) ?_
  refine lv_istore (lv' := [(5, .int 0), (4, .int 768), (3, .ref q3), (2, .int 0), (1, .int 0), (0, .ref mo)]) hx hb dX12_meanProof_15 hl (by decide) rfl (fun ls hl => ?_)
  refine w_loop (N := 768) (fun i locs ls => va_S A s.heap H locs ∧ lv_has ls 7 [(5, .int (nI i)), (4, .int 768), (3, .ref q3), (2, .int 0), (1, .int 0), (0, .ref mo)]) ?_ 0 _ _ (Nat.zero_le _) ⟨hS, lv_sub hl [0, 1, 2, 3, 4, 5] rfl⟩
  rintro i locs ls hi ⟨hS, hl⟩ ih
  refine lv_iload hx hb dX12_meanProof_17 (lv_at hl 0 rfl) ?_
  refine lv_iload hx hb dX12_meanProof_19 (lv_at hl 1 rfl) ?_
  refine lv_icmp_ge (tgt := 54) hx hb dX12_meanProof_21 (by decide) (fun c_21 => ?_) (fun c_21 => ?_)
  · have h9 : 768 ≤ i := by have z := i32_le c_21; rw [show (768 : Int32).toInt = (768 : Int) from rfl, nI_toInt (by omega)] at z; omega
    have hi9 : i = 768 := by omega
    refine lv_aload_n hx hb dX12_meanProof_54 rfl (lv_at hl 5 rfl) ?_
    refine lv_iload_n hx hb dX12_meanProof_55 rfl (lv_at hl 3 rfl) ?_
    refine lv_if_ne (tgt := 63) hx hb dX12_meanProof_56 (by decide) (fun c_56 => absurd c_56 (by decide)) (fun c_56 => ?_)
    refine lv_iconst (v := 1) hx hb dX12_meanProof_59 (by decide) ?_
    refine lv_goto (tgt := 64) hx hb dX12_meanProof_60 (by decide) ?_
    have hPc := hP.sub (ws' := [(mo, .inr (13, [.int 0, .ref (w 0), .int 0, .ref (w 1), .int 0, .int 0, .ref (w 2), .int 0, .ref (w 3), .ref (w 4), .int 0]))]) [0] rfl
    have hDc := hD.sub (ws' := [(mo, .inr (13, [.int 0, .ref (w 0), .int 0, .ref (w 1), .int 0, .int 0, .ref (w 2), .int 0, .ref (w 3), .ref (w 4), .int 0]))]) [0] (by decide) rfl
    have hFc := va_free (wc := [(mo, .inr (13, [.int 0, .ref (w 0), .int 0, .ref (w 1), .int 0, .int 0, .ref (w 2), .int 0, .ref (w 3), .ref (w 4), .int 0]))]) hD hS hA [0] rfl
    refine va_calli (va_runV (As := [.int 1]) (rest := []) ⟨hx, hb, hml, hown, hts⟩ (k_X12_fails l D k e0 H.size mo w 0 1) (cwV 1 hts gX12_meanProof_X12_fails rfl rfl rfl (by decide +kernel) ⟨Nat.le_of_ble_eq_true rfl, Nat.le_of_ble_eq_true rfl⟩) ⟨mPc_fb, va_recv hC.1 hPc (ci := 13) (q0 := 0) rfl rfl, mPc_go hC hHf hS hPc hDc hFc⟩ rfl rfl hl.1 rfl (lv_room (Nat.le_of_ble_eq_true rfl)) dX12_meanProof_64 ⟨Nat.le_of_ble_eq_true rfl, Nat.le_of_ble_eq_true rfl⟩) hS (fun q9 _ h9 => hFc q9 h9) hFc (fun r5 u4 t H locs ht hvm hw_r5 hB hz1 hk1 hS => ?_)
    obtain ⟨hP1, hD1⟩ := hB
    rw [ht] at hP1
    obtain ⟨hP, hD⟩ := va_join (wr := [(q3, .inl (k 2, 768, .inl (fun _ => 0)))]) (w1 := [(mo, .inr (13, [.int 1, .ref (w 0), .int 0, .ref (w 1), .int 0, .int 0, .ref (w 2), .int 0, .ref (w 3), .ref (w 4), .int 0]))]) hP hD [0] [1] rfl rfl (by decide) (by decide) hk1 hFc hP1 hD1
    have hP : va_P D vwCl [(q3, .inl (k 2, 768, .inl (fun _ => 0))), (mo, .inr (13, [.int 1, .ref (w 0), .int 0, .ref (w 1), .int 0, .int 0, .ref (w 2), .int 0, .ref (w 3), .ref (w 4), .int 0]))] H := hP
    have hD : va_D A [(q3, .inl (k 2, 768, .inl (fun _ => 0))), (mo, .inr (13, [.int 1, .ref (w 0), .int 0, .ref (w 1), .int 0, .int 0, .ref (w 2), .int 0, .ref (w 3), .ref (w 4), .int 0]))] := hD
    have e_r5 : r5 = 1 := hw_r5.trans (by decide)
    subst e_r5
    refine lv_if_eq (tgt := 74) hx hb dX12_meanProof_67 (by decide) (fun c_67 => absurd c_67 (by decide)) (fun c_67 => ?_)
    refine lv_dconst0 hx hb dX12_meanProof_70 ?_
    refine lv_goto (tgt := 79) hx hb dX12_meanProof_71 (by decide) ?_
    exact W.dret (v := FP.dconst0) hx hb hr (fun t ht hW => ⟨⟨FP.dconst0, [.int 1, .ref (w 0), .int 0, .ref (w 1), .int 0, .int 0, .ref (w 2), .int 0, .ref (w 3), .ref (w 4), .int 0], rfl, rfl, ⟨by rw [ht]; exact hP.sub [1] rfl, hD.sub [1] (by decide) rfl⟩⟩, hS.F ht⟩) hS.2.2 dX12_meanProof_79
  · have hlt : i < 768 := by have z := i32_nle c_21; rw [show (768 : Int32).toInt = (768 : Int) from rfl, nI_toInt (by omega)] at z; omega
    refine lv_aload_n hx hb dX12_meanProof_24 rfl (lv_at hl 2 rfl) ?_
    refine lv_iload hx hb dX12_meanProof_25 (lv_at hl 0 rfl) ?_
    refine va_iald hx hb hC.1 hP 1 2 rfl rfl (vp_in_nI hlt (by decide)) dX12_meanProof_27 ?_
    refine w_top (y := 0) rfl ?_
    refine lv_istore (lv' := [(6, .int 0), (5, .int (nI i)), (4, .int 768), (3, .ref q3), (2, .int 0), (1, .int 0), (0, .ref mo)]) hx hb dX12_meanProof_28 hl (by decide) rfl (fun ls hl => ?_)
    refine lv_iload_n hx hb dX12_meanProof_30 rfl (lv_at hl 5 rfl) ?_
    refine lv_iload hx hb dX12_meanProof_31 (lv_at hl 0 rfl) ?_
    refine lv_iadd hx hb dX12_meanProof_33 ?_
    refine w_top (y := 0) (by decide) ?_
    refine lv_istore_n (lv' := [(1, .int 0), (6, .int 0), (5, .int (nI i)), (4, .int 768), (3, .ref q3), (2, .int 0), (0, .ref mo)]) hx hb dX12_meanProof_34 rfl hl (by decide) rfl (fun ls hl => ?_)
    refine lv_iload_n hx hb dX12_meanProof_35 rfl (lv_at hl 5 rfl) ?_
    refine lv_iload hx hb dX12_meanProof_36 (lv_at hl 1 rfl) ?_
    refine lv_if_le (tgt := 45) hx hb dX12_meanProof_38 (by decide) (fun c_38 => ?_) (fun c_38 => absurd (by decide) c_38)
    refine lv_iconst (v := 0) hx hb dX12_meanProof_45 (by decide) ?_
    refine lv_iadd hx hb dX12_meanProof_46 ?_
    refine w_top (y := 0) (by decide) ?_
    refine lv_istore_n (lv' := [(2, .int 0), (1, .int 0), (6, .int 0), (5, .int (nI i)), (4, .int 768), (3, .ref q3), (0, .ref mo)]) hx hb dX12_meanProof_47 rfl hl (by decide) rfl (fun ls hl => ?_)
    refine lv_iinc (v := nI (i + 1)) (lv' := [(5, .int (nI (i + 1))), (2, .int 0), (1, .int 0), (6, .int 0), (4, .int 768), (3, .ref q3), (0, .ref mo)]) hx hb dX12_meanProof_48 hl (k := 3) rfl (nI_1 i) (by decide) rfl (fun ls hl => ?_)
    refine lv_goto (tgt := 17) hx hb dX12_meanProof_51 (by decide) ?_
    exact ih locs ls hlt ⟨hS, lv_sub hl [0, 4, 5, 1, 2, 6] rfl⟩

set_option maxHeartbeats 4000000 in
set_option maxRecDepth 100000 in
theorem k_X12_addRule (l : Launch) (D : va_G) (k : Nat → ClassId) (e0 : Nat) (sz : Nat) (mo : Nat) (w : Nat → Nat) (kd x y z : Int32) : Met l yX12_addRule wsX12_addRule ({ frames := 2, cells := 1, slots := 4, locals := 42 }) (mPc D k e0 sz [.ref mo, .int kd, .int x, .int y, .int z] [(mo, .inr (13, [.int 0, .ref (w 0), .int 0, .ref (w 1), .int 0, .int 0, .ref (w 2), .int 0, .ref (w 3), .ref (w 4), .int 0])), ((w 0), .inl (k 5, 3, .inr (.inr (.inr (.inr (fun i => some (w (5 + i)))))))), ((w 5), .inl (k 0, 768, .inl (fun _ => 0))), ((w 6), .inl (k 0, 768, .inl (fun _ => 0))), ((w 7), .inl (k 0, 768, .inl (fun _ => 0))), ((w 1), .inl (k 6, 8, .inr (.inr (.inr (.inr (fun _ => none)))))), ((w 2), .inl (k 6, 20, .inr (.inr (.inr (.inr (fun _ => none)))))), ((w 4), .inl (k 6, 6, .inr (.inr (.inr (.inr (fun _ => none))))))]) (va_Qi (fun r (u : List Value) => (((0 ≤ x.toInt ∧ x.toInt < 8) ∧ (kd.toInt = 116 ∨ (kd.toInt = 99 ∧ (0 ≤ y.toInt ∧ y.toInt < 8) ∧ (0 ≤ z.toInt ∧ z.toInt < 8)) ∨ ((kd.toInt = 115 ∨ kd.toInt = 105) ∧ (0 ≤ y.toInt ∧ y.toInt < 8)))) ∧ u[0]? = some (.int 0) ∧ r = 0) ∨ (¬ ((0 ≤ x.toInt ∧ x.toInt < 8) ∧ (kd.toInt = 116 ∨ (kd.toInt = 99 ∧ (0 ≤ y.toInt ∧ y.toInt < 8) ∧ (0 ≤ z.toInt ∧ z.toInt < 8)) ∨ ((kd.toInt = 115 ∨ kd.toInt = 105) ∧ (0 ≤ y.toInt ∧ y.toInt < 8)))) ∧ u[0]? = some (.int 1))) (fun u t => va_P D vwCl [(mo, .inr (13, u))] t.heap ∧ va_D (va_A [(mo, .inr (13, [.int 0, .ref (w 0), .int 0, .ref (w 1), .int 0, .int 0, .ref (w 2), .int 0, .ref (w 3), .ref (w 4), .int 0])), ((w 0), .inl (k 5, 3, .inr (.inr (.inr (.inr (fun i => some (w (5 + i)))))))), ((w 5), .inl (k 0, 768, .inl (fun _ => 0))), ((w 6), .inl (k 0, 768, .inl (fun _ => 0))), ((w 7), .inl (k 0, 768, .inl (fun _ => 0))), ((w 1), .inl (k 6, 8, .inr (.inr (.inr (.inr (fun _ => none)))))), ((w 2), .inl (k 6, 20, .inr (.inr (.inr (.inr (fun _ => none)))))), ((w 4), .inl (k 6, 6, .inr (.inr (.inr (.inr (fun _ => none))))))] sz) [(mo, .inr (13, u))]) (va_A [(mo, .inr (13, [.int 0, .ref (w 0), .int 0, .ref (w 1), .int 0, .int 0, .ref (w 2), .int 0, .ref (w 3), .ref (w 4), .int 0])), ((w 0), .inl (k 5, 3, .inr (.inr (.inr (.inr (fun i => some (w (5 + i)))))))), ((w 5), .inl (k 0, 768, .inl (fun _ => 0))), ((w 6), .inl (k 0, 768, .inl (fun _ => 0))), ((w 7), .inl (k 0, 768, .inl (fun _ => 0))), ((w 1), .inl (k 6, 8, .inr (.inr (.inr (.inr (fun _ => none)))))), ((w 2), .inl (k 6, 20, .inr (.inr (.inr (.inr (fun _ => none)))))), ((w 4), .inl (k 6, 6, .inr (.inr (.inr (.inr (fun _ => none))))))] sz)) 1 4 (va_A [(mo, .inr (13, [.int 0, .ref (w 0), .int 0, .ref (w 1), .int 0, .int 0, .ref (w 2), .int 0, .ref (w 3), .ref (w 4), .int 0])), ((w 0), .inl (k 5, 3, .inr (.inr (.inr (.inr (fun i => some (w (5 + i)))))))), ((w 5), .inl (k 0, 768, .inl (fun _ => 0))), ((w 6), .inl (k 0, 768, .inl (fun _ => 0))), ((w 7), .inl (k 0, 768, .inl (fun _ => 0))), ((w 1), .inl (k 6, 8, .inr (.inr (.inr (.inr (fun _ => none)))))), ((w 2), .inl (k 6, 20, .inr (.inr (.inr (.inr (fun _ => none)))))), ((w 4), .inl (k 6, 6, .inr (.inr (.inr (.inr (fun _ => none))))))] sz) := by
  refine Met.ofW (cc := cX12_addRule) (maxL := 7) (ret := (some .int)) (by decide) rfl ?_
  intro p e s m args below meth c s₁ B hml hv
  obtain ⟨rfl, rfl, hP, hC, hD0, hHf⟩ := hv
  have hx := B.exec
  have hb := B.bytes
  have hr := B.returns
  have hts := atoms_spec (ws := wsX12_addRule) B.pre
  have hown : s.vm.findClass RX12 = some m.cls := findClass_of_methodNamed B.named
  have hlocks := B.notSynchronized
  have hD := hD0.self (sz := s.heap.size)
  generalize hAe : va_A [(mo, .inr (13, [.int 0, .ref (w 0), .int 0, .ref (w 1), .int 0, .int 0, .ref (w 2), .int 0, .ref (w 3), .ref (w 4), .int 0])), ((w 0), .inl (k 5, 3, .inr (.inr (.inr (.inr (fun i => some (w (5 + i)))))))), ((w 5), .inl (k 0, 768, .inl (fun _ => 0))), ((w 6), .inl (k 0, 768, .inl (fun _ => 0))), ((w 7), .inl (k 0, 768, .inl (fun _ => 0))), ((w 1), .inl (k 6, 8, .inr (.inr (.inr (.inr (fun _ => none)))))), ((w 2), .inl (k 6, 20, .inr (.inr (.inr (.inr (fun _ => none)))))), ((w 4), .inl (k 6, 6, .inr (.inr (.inr (.inr (fun _ => none))))))] s.heap.size = A at hD hHf ⊢
  have hA : ∀ q : Nat, s.heap.size ≤ q → A q := fun q h => by rw [← hAe]; exact Or.inr h
  have hS : va_S A s.heap s.heap [] := va_S.rf
  refine w_entry (Nat.le_of_ble_eq_true rfl) (fun ls hl => ?_)
  have hl : lv_has ls 7 [(0, .ref mo), (1, .int kd), (2, .int x), (3, .int y), (4, .int z)] := hl
  refine w_join (pc2 := 31) (st2 := []) (I := fun locs ls => va_S A s.heap s.heap locs ∧ ∃ r5 : Int32, r5 = bi (kd.toInt = 115 ∨ kd.toInt = 105 ∨ kd.toInt = 116 ∨ kd.toInt = 99) ∧ lv_has ls 7 [(0, .ref mo), (1, .int kd), (2, .int x), (3, .int y), (4, .int z), (5, .int r5)]) ?_ ?_
  · rintro locs ls ⟨hS, r5, e_r5, hl⟩
    refine w_join (pc2 := 77) (st2 := []) (I := fun locs ls => va_S A s.heap s.heap locs ∧ ∃ r6 : Int32, r6 = bi ((0 ≤ x.toInt ∧ x.toInt < 8) ∧ (kd.toInt = 116 ∨ (kd.toInt = 99 ∧ (0 ≤ y.toInt ∧ y.toInt < 8) ∧ (0 ≤ z.toInt ∧ z.toInt < 8)) ∨ ((kd.toInt = 115 ∨ kd.toInt = 105) ∧ (0 ≤ y.toInt ∧ y.toInt < 8)))) ∧ lv_has ls 7 [(0, .ref mo), (1, .int kd), (2, .int x), (3, .int y), (4, .int z), (5, .int r5), (6, .int r6)]) ?_ ?_
    · rintro locs ls ⟨hS, r6, e_r6, hl⟩
      refine lv_aload_n hx hb dX12_addRule_77 rfl (lv_at hl 0 rfl) ?_
      refine lv_iload hx hb dX12_addRule_78 (lv_at hl 6 rfl) ?_
      refine lv_if_ne (tgt := 87) hx hb dX12_addRule_80 (by decide) (fun c_80 => ?_) (fun c_80 => ?_)
      · have f_80 := bi_n e_r6 c_80
        refine lv_aload_n hx hb dX12_addRule_87 rfl (lv_at hl 0 rfl) ?_
        refine va_get (D := D) (ci := 13) (v := .int 0) (C := RX12) (T := TX12) (N := 11) hx hb hts (by decide +kernel) hown hC.1 hP 0 rfl rfl 4 (by decide) (hts (.fieldLink RX12 65 "TriplegarthModel" "ruleMany" "I") (by decide +kernel)) (fun _ h9 => h9) rfl dX12_addRule_88 ?_
        refine lv_bipush (v := 8) hx hb dX12_addRule_91 (by decide) ?_
        refine lv_icmp_ne (tgt := 100) hx hb dX12_addRule_93 (by decide) (fun c_93 => ?_) (fun c_93 => absurd c_93 (by decide))
        refine lv_iconst (v := 0) hx hb dX12_addRule_100 (by decide) ?_
        have hPc := hP.sub (ws' := [(mo, .inr (13, [.int 0, .ref (w 0), .int 0, .ref (w 1), .int 0, .int 0, .ref (w 2), .int 0, .ref (w 3), .ref (w 4), .int 0]))]) [0] rfl
        have hDc := hD.sub (ws' := [(mo, .inr (13, [.int 0, .ref (w 0), .int 0, .ref (w 1), .int 0, .int 0, .ref (w 2), .int 0, .ref (w 3), .ref (w 4), .int 0]))]) [0] (by decide) rfl
        have hFc := va_free (wc := [(mo, .inr (13, [.int 0, .ref (w 0), .int 0, .ref (w 1), .int 0, .int 0, .ref (w 2), .int 0, .ref (w 3), .ref (w 4), .int 0]))]) hD hS hA [0] rfl
        refine va_calli (va_runV (As := [.int 0]) (rest := []) ⟨hx, hb, hml, hown, hts⟩ (k_X12_fails l D k e0 s.heap.size mo w 0 0) (cwV 1 hts gX12_addRule_X12_fails rfl rfl rfl (by decide +kernel) ⟨Nat.le_of_ble_eq_true rfl, Nat.le_of_ble_eq_true rfl⟩) ⟨mPc_fb, va_recv hC.1 hPc (ci := 13) (q0 := 0) rfl rfl, mPc_go hC hHf hS hPc hDc hFc⟩ rfl rfl hl.1 rfl (lv_room (Nat.le_of_ble_eq_true rfl)) dX12_addRule_101 ⟨Nat.le_of_ble_eq_true rfl, Nat.le_of_ble_eq_true rfl⟩) hS (fun q9 _ h9 => hFc q9 h9) hFc (fun r2 u1 t H locs ht hvm hw_r2 hB hz1 hk1 hS => ?_)
        obtain ⟨hP1, hD1⟩ := hB
        rw [ht] at hP1
        obtain ⟨hP, hD⟩ := va_join (wr := [((w 0), .inl (k 5, 3, .inr (.inr (.inr (.inr (fun i => some (w (5 + i)))))))), ((w 5), .inl (k 0, 768, .inl (fun _ => 0))), ((w 6), .inl (k 0, 768, .inl (fun _ => 0))), ((w 7), .inl (k 0, 768, .inl (fun _ => 0))), ((w 1), .inl (k 6, 8, .inr (.inr (.inr (.inr (fun _ => none)))))), ((w 2), .inl (k 6, 20, .inr (.inr (.inr (.inr (fun _ => none)))))), ((w 4), .inl (k 6, 6, .inr (.inr (.inr (.inr (fun _ => none))))))]) (w1 := [(mo, .inr (13, [.int 0, .ref (w 0), .int 0, .ref (w 1), .int 0, .int 0, .ref (w 2), .int 0, .ref (w 3), .ref (w 4), .int 0]))]) hP hD [0] [1, 2, 3, 4, 5, 6, 7] rfl rfl (by decide) (by decide) hk1 hFc hP1 hD1
        have hP : va_P D vwCl [((w 0), .inl (k 5, 3, .inr (.inr (.inr (.inr (fun i => some (w (5 + i)))))))), ((w 5), .inl (k 0, 768, .inl (fun _ => 0))), ((w 6), .inl (k 0, 768, .inl (fun _ => 0))), ((w 7), .inl (k 0, 768, .inl (fun _ => 0))), ((w 1), .inl (k 6, 8, .inr (.inr (.inr (.inr (fun _ => none)))))), ((w 2), .inl (k 6, 20, .inr (.inr (.inr (.inr (fun _ => none)))))), ((w 4), .inl (k 6, 6, .inr (.inr (.inr (.inr (fun _ => none)))))), (mo, .inr (13, [.int 0, .ref (w 0), .int 0, .ref (w 1), .int 0, .int 0, .ref (w 2), .int 0, .ref (w 3), .ref (w 4), .int 0]))] H := hP
        have hD : va_D A [((w 0), .inl (k 5, 3, .inr (.inr (.inr (.inr (fun i => some (w (5 + i)))))))), ((w 5), .inl (k 0, 768, .inl (fun _ => 0))), ((w 6), .inl (k 0, 768, .inl (fun _ => 0))), ((w 7), .inl (k 0, 768, .inl (fun _ => 0))), ((w 1), .inl (k 6, 8, .inr (.inr (.inr (.inr (fun _ => none)))))), ((w 2), .inl (k 6, 20, .inr (.inr (.inr (.inr (fun _ => none)))))), ((w 4), .inl (k 6, 6, .inr (.inr (.inr (.inr (fun _ => none)))))), (mo, .inr (13, [.int 0, .ref (w 0), .int 0, .ref (w 1), .int 0, .int 0, .ref (w 2), .int 0, .ref (w 3), .ref (w 4), .int 0]))] := hD
        have e_r2 : r2 = 0 := hw_r2.trans (by decide)
        subst e_r2
        refine lv_if_eq (tgt := 109) hx hb dX12_addRule_104 (by decide) (fun c_104 => ?_) (fun c_104 => absurd (by decide) c_104)
        refine lv_aload_n hx hb dX12_addRule_109 rfl (lv_at hl 0 rfl) ?_
        refine va_get (D := D) (ci := 13) (v := .ref (w 1)) (C := RX12) (T := TX12) (N := 11) hx hb hts (by decide +kernel) hown hC.1 hP 7 rfl rfl 3 (by decide) (hts (.fieldLink RX12 16 "TriplegarthModel" "rules" "[[I") (by decide +kernel)) (fun _ h9 => h9) rfl dX12_addRule_110 ?_
        refine lv_aload_n hx hb dX12_addRule_113 rfl (lv_at hl 0 rfl) ?_
        refine va_get (D := D) (ci := 13) (v := .int 0) (C := RX12) (T := TX12) (N := 11) hx hb hts (by decide +kernel) hown hC.1 hP 7 rfl rfl 4 (by decide) (hts (.fieldLink RX12 65 "TriplegarthModel" "ruleMany" "I") (by decide +kernel)) (fun _ h9 => h9) rfl dX12_addRule_114 ?_
        refine lv_iconst (v := 4) hx hb dX12_addRule_117 (by decide) ?_
        refine w_newa (atype := .int) hx hb (hts (.arrayClass .int) (by decide +kernel)) (ty := .int) rfl 2 rfl hC.1 hP hD hS hA (a0 := (4, .inl (fun _ => 0))) (N' := 4) (fun _ => rfl) (by decide) (by decide) (Nat.le_of_ble_eq_true rfl) (Nat.le_of_ble_eq_true rfl) (Nat.le_of_ble_eq_true rfl) dX12_addRule_118 (fun q118 H hP hD hS => ?_)
        have hP : va_P D vwCl [((w 0), .inl (k 5, 3, .inr (.inr (.inr (.inr (fun i => some (w (5 + i)))))))), ((w 5), .inl (k 0, 768, .inl (fun _ => 0))), ((w 6), .inl (k 0, 768, .inl (fun _ => 0))), ((w 7), .inl (k 0, 768, .inl (fun _ => 0))), ((w 1), .inl (k 6, 8, .inr (.inr (.inr (.inr (fun _ => none)))))), ((w 2), .inl (k 6, 20, .inr (.inr (.inr (.inr (fun _ => none)))))), ((w 4), .inl (k 6, 6, .inr (.inr (.inr (.inr (fun _ => none)))))), (mo, .inr (13, [.int 0, .ref (w 0), .int 0, .ref (w 1), .int 0, .int 0, .ref (w 2), .int 0, .ref (w 3), .ref (w 4), .int 0])), (q118, .inl (k 2, 4, .inl (fun _ => 0)))] H := hP
        have hD : va_D A [((w 0), .inl (k 5, 3, .inr (.inr (.inr (.inr (fun i => some (w (5 + i)))))))), ((w 5), .inl (k 0, 768, .inl (fun _ => 0))), ((w 6), .inl (k 0, 768, .inl (fun _ => 0))), ((w 7), .inl (k 0, 768, .inl (fun _ => 0))), ((w 1), .inl (k 6, 8, .inr (.inr (.inr (.inr (fun _ => none)))))), ((w 2), .inl (k 6, 20, .inr (.inr (.inr (.inr (fun _ => none)))))), ((w 4), .inl (k 6, 6, .inr (.inr (.inr (.inr (fun _ => none)))))), (mo, .inr (13, [.int 0, .ref (w 0), .int 0, .ref (w 1), .int 0, .int 0, .ref (w 2), .int 0, .ref (w 3), .ref (w 4), .int 0])), (q118, .inl (k 2, 4, .inl (fun _ => 0)))] := hD
        refine lv_dup hx hb dX12_addRule_120 rfl ?_
        refine lv_iconst (v := 0) hx hb dX12_addRule_121 (by decide) ?_
        refine lv_iload_n hx hb dX12_addRule_122 rfl (lv_at hl 1 rfl) ?_
        refine va_iast hx hb hC.1 hP hD hS 8 2 rfl rfl (vp_in_nI (n := 0) (N := 4) (by decide) (by decide)) dX12_addRule_123 (fun H locs hP hD hS => ?_)
        have hP : va_P D vwCl [((w 0), .inl (k 5, 3, .inr (.inr (.inr (.inr (fun i => some (w (5 + i)))))))), ((w 5), .inl (k 0, 768, .inl (fun _ => 0))), ((w 6), .inl (k 0, 768, .inl (fun _ => 0))), ((w 7), .inl (k 0, 768, .inl (fun _ => 0))), ((w 1), .inl (k 6, 8, .inr (.inr (.inr (.inr (fun _ => none)))))), ((w 2), .inl (k 6, 20, .inr (.inr (.inr (.inr (fun _ => none)))))), ((w 4), .inl (k 6, 6, .inr (.inr (.inr (.inr (fun _ => none)))))), (mo, .inr (13, [.int 0, .ref (w 0), .int 0, .ref (w 1), .int 0, .int 0, .ref (w 2), .int 0, .ref (w 3), .ref (w 4), .int 0])), (q118, .inl (k 2, 4, .inl (upd (fun _ => 0) (0 : Int32).toNatClampNeg kd)))] H := hP
        have hD : va_D A [((w 0), .inl (k 5, 3, .inr (.inr (.inr (.inr (fun i => some (w (5 + i)))))))), ((w 5), .inl (k 0, 768, .inl (fun _ => 0))), ((w 6), .inl (k 0, 768, .inl (fun _ => 0))), ((w 7), .inl (k 0, 768, .inl (fun _ => 0))), ((w 1), .inl (k 6, 8, .inr (.inr (.inr (.inr (fun _ => none)))))), ((w 2), .inl (k 6, 20, .inr (.inr (.inr (.inr (fun _ => none)))))), ((w 4), .inl (k 6, 6, .inr (.inr (.inr (.inr (fun _ => none)))))), (mo, .inr (13, [.int 0, .ref (w 0), .int 0, .ref (w 1), .int 0, .int 0, .ref (w 2), .int 0, .ref (w 3), .ref (w 4), .int 0])), (q118, .inl (k 2, 4, .inl (upd (fun _ => 0) (0 : Int32).toNatClampNeg kd)))] := hD
        refine lv_dup hx hb dX12_addRule_124 rfl ?_
        refine lv_iconst (v := 1) hx hb dX12_addRule_125 (by decide) ?_
        refine lv_iload_n hx hb dX12_addRule_126 rfl (lv_at hl 2 rfl) ?_
        refine va_iast hx hb hC.1 hP hD hS 8 2 rfl rfl (vp_in_nI (n := 1) (N := 4) (by decide) (by decide)) dX12_addRule_127 (fun H locs hP hD hS => ?_)
        have hP : va_P D vwCl [((w 0), .inl (k 5, 3, .inr (.inr (.inr (.inr (fun i => some (w (5 + i)))))))), ((w 5), .inl (k 0, 768, .inl (fun _ => 0))), ((w 6), .inl (k 0, 768, .inl (fun _ => 0))), ((w 7), .inl (k 0, 768, .inl (fun _ => 0))), ((w 1), .inl (k 6, 8, .inr (.inr (.inr (.inr (fun _ => none)))))), ((w 2), .inl (k 6, 20, .inr (.inr (.inr (.inr (fun _ => none)))))), ((w 4), .inl (k 6, 6, .inr (.inr (.inr (.inr (fun _ => none)))))), (mo, .inr (13, [.int 0, .ref (w 0), .int 0, .ref (w 1), .int 0, .int 0, .ref (w 2), .int 0, .ref (w 3), .ref (w 4), .int 0])), (q118, .inl (k 2, 4, .inl (upd (upd (fun _ => 0) (0 : Int32).toNatClampNeg kd) (1 : Int32).toNatClampNeg x)))] H := hP
        have hD : va_D A [((w 0), .inl (k 5, 3, .inr (.inr (.inr (.inr (fun i => some (w (5 + i)))))))), ((w 5), .inl (k 0, 768, .inl (fun _ => 0))), ((w 6), .inl (k 0, 768, .inl (fun _ => 0))), ((w 7), .inl (k 0, 768, .inl (fun _ => 0))), ((w 1), .inl (k 6, 8, .inr (.inr (.inr (.inr (fun _ => none)))))), ((w 2), .inl (k 6, 20, .inr (.inr (.inr (.inr (fun _ => none)))))), ((w 4), .inl (k 6, 6, .inr (.inr (.inr (.inr (fun _ => none)))))), (mo, .inr (13, [.int 0, .ref (w 0), .int 0, .ref (w 1), .int 0, .int 0, .ref (w 2), .int 0, .ref (w 3), .ref (w 4), .int 0])), (q118, .inl (k 2, 4, .inl (upd (upd (fun _ => 0) (0 : Int32).toNatClampNeg kd) (1 : Int32).toNatClampNeg x)))] := hD
        refine lv_dup hx hb dX12_addRule_128 rfl ?_
        refine lv_iconst (v := 2) hx hb dX12_addRule_129 (by decide) ?_
        refine lv_iload_n hx hb dX12_addRule_130 rfl (lv_at hl 3 rfl) ?_
        refine va_iast hx hb hC.1 hP hD hS 8 2 rfl rfl (vp_in_nI (n := 2) (N := 4) (by decide) (by decide)) dX12_addRule_131 (fun H locs hP hD hS => ?_)
        have hP : va_P D vwCl [((w 0), .inl (k 5, 3, .inr (.inr (.inr (.inr (fun i => some (w (5 + i)))))))), ((w 5), .inl (k 0, 768, .inl (fun _ => 0))), ((w 6), .inl (k 0, 768, .inl (fun _ => 0))), ((w 7), .inl (k 0, 768, .inl (fun _ => 0))), ((w 1), .inl (k 6, 8, .inr (.inr (.inr (.inr (fun _ => none)))))), ((w 2), .inl (k 6, 20, .inr (.inr (.inr (.inr (fun _ => none)))))), ((w 4), .inl (k 6, 6, .inr (.inr (.inr (.inr (fun _ => none)))))), (mo, .inr (13, [.int 0, .ref (w 0), .int 0, .ref (w 1), .int 0, .int 0, .ref (w 2), .int 0, .ref (w 3), .ref (w 4), .int 0])), (q118, .inl (k 2, 4, .inl (upd (upd (upd (fun _ => 0) (0 : Int32).toNatClampNeg kd) (1 : Int32).toNatClampNeg x) (2 : Int32).toNatClampNeg y)))] H := hP
        have hD : va_D A [((w 0), .inl (k 5, 3, .inr (.inr (.inr (.inr (fun i => some (w (5 + i)))))))), ((w 5), .inl (k 0, 768, .inl (fun _ => 0))), ((w 6), .inl (k 0, 768, .inl (fun _ => 0))), ((w 7), .inl (k 0, 768, .inl (fun _ => 0))), ((w 1), .inl (k 6, 8, .inr (.inr (.inr (.inr (fun _ => none)))))), ((w 2), .inl (k 6, 20, .inr (.inr (.inr (.inr (fun _ => none)))))), ((w 4), .inl (k 6, 6, .inr (.inr (.inr (.inr (fun _ => none)))))), (mo, .inr (13, [.int 0, .ref (w 0), .int 0, .ref (w 1), .int 0, .int 0, .ref (w 2), .int 0, .ref (w 3), .ref (w 4), .int 0])), (q118, .inl (k 2, 4, .inl (upd (upd (upd (fun _ => 0) (0 : Int32).toNatClampNeg kd) (1 : Int32).toNatClampNeg x) (2 : Int32).toNatClampNeg y)))] := hD
        refine lv_dup hx hb dX12_addRule_132 rfl ?_
        refine lv_iconst (v := 3) hx hb dX12_addRule_133 (by decide) ?_
        refine lv_iload hx hb dX12_addRule_134 (lv_at hl 4 rfl) ?_
        refine va_iast hx hb hC.1 hP hD hS 8 2 rfl rfl (vp_in_nI (n := 3) (N := 4) (by decide) (by decide)) dX12_addRule_136 (fun H locs hP hD hS => ?_)
        have hP : va_P D vwCl [((w 0), .inl (k 5, 3, .inr (.inr (.inr (.inr (fun i => some (w (5 + i)))))))), ((w 5), .inl (k 0, 768, .inl (fun _ => 0))), ((w 6), .inl (k 0, 768, .inl (fun _ => 0))), ((w 7), .inl (k 0, 768, .inl (fun _ => 0))), ((w 1), .inl (k 6, 8, .inr (.inr (.inr (.inr (fun _ => none)))))), ((w 2), .inl (k 6, 20, .inr (.inr (.inr (.inr (fun _ => none)))))), ((w 4), .inl (k 6, 6, .inr (.inr (.inr (.inr (fun _ => none)))))), (mo, .inr (13, [.int 0, .ref (w 0), .int 0, .ref (w 1), .int 0, .int 0, .ref (w 2), .int 0, .ref (w 3), .ref (w 4), .int 0])), (q118, .inl (k 2, 4, .inl (upd (upd (upd (upd (fun _ => 0) (0 : Int32).toNatClampNeg kd) (1 : Int32).toNatClampNeg x) (2 : Int32).toNatClampNeg y) (3 : Int32).toNatClampNeg z)))] H := hP
        have hD : va_D A [((w 0), .inl (k 5, 3, .inr (.inr (.inr (.inr (fun i => some (w (5 + i)))))))), ((w 5), .inl (k 0, 768, .inl (fun _ => 0))), ((w 6), .inl (k 0, 768, .inl (fun _ => 0))), ((w 7), .inl (k 0, 768, .inl (fun _ => 0))), ((w 1), .inl (k 6, 8, .inr (.inr (.inr (.inr (fun _ => none)))))), ((w 2), .inl (k 6, 20, .inr (.inr (.inr (.inr (fun _ => none)))))), ((w 4), .inl (k 6, 6, .inr (.inr (.inr (.inr (fun _ => none)))))), (mo, .inr (13, [.int 0, .ref (w 0), .int 0, .ref (w 1), .int 0, .int 0, .ref (w 2), .int 0, .ref (w 3), .ref (w 4), .int 0])), (q118, .inl (k 2, 4, .inl (upd (upd (upd (upd (fun _ => 0) (0 : Int32).toNatClampNeg kd) (1 : Int32).toNatClampNeg x) (2 : Int32).toNatClampNeg y) (3 : Int32).toNatClampNeg z)))] := hD
        refine w_astII hx hb hC.2.2.1.2.2.2.1 hC.1 hP hD hS 4 8 rfl rfl (vp_in_nI (n := 0) (N := 8) (by decide) (by decide)) dX12_addRule_137 (fun H locs hP hD hS => ?_)
        have hP : va_P D vwCl [((w 0), .inl (k 5, 3, .inr (.inr (.inr (.inr (fun i => some (w (5 + i)))))))), ((w 5), .inl (k 0, 768, .inl (fun _ => 0))), ((w 6), .inl (k 0, 768, .inl (fun _ => 0))), ((w 7), .inl (k 0, 768, .inl (fun _ => 0))), ((w 1), .inl (k 6, 8, .inr (.inr (.inr (.inr (va_up (fun _ => none) (0 : Int32).toNatClampNeg (some q118))))))), ((w 2), .inl (k 6, 20, .inr (.inr (.inr (.inr (fun _ => none)))))), ((w 4), .inl (k 6, 6, .inr (.inr (.inr (.inr (fun _ => none)))))), (mo, .inr (13, [.int 0, .ref (w 0), .int 0, .ref (w 1), .int 0, .int 0, .ref (w 2), .int 0, .ref (w 3), .ref (w 4), .int 0])), (q118, .inl (k 2, 4, .inl (upd (upd (upd (upd (fun _ => 0) (0 : Int32).toNatClampNeg kd) (1 : Int32).toNatClampNeg x) (2 : Int32).toNatClampNeg y) (3 : Int32).toNatClampNeg z)))] H := hP
        have hD : va_D A [((w 0), .inl (k 5, 3, .inr (.inr (.inr (.inr (fun i => some (w (5 + i)))))))), ((w 5), .inl (k 0, 768, .inl (fun _ => 0))), ((w 6), .inl (k 0, 768, .inl (fun _ => 0))), ((w 7), .inl (k 0, 768, .inl (fun _ => 0))), ((w 1), .inl (k 6, 8, .inr (.inr (.inr (.inr (va_up (fun _ => none) (0 : Int32).toNatClampNeg (some q118))))))), ((w 2), .inl (k 6, 20, .inr (.inr (.inr (.inr (fun _ => none)))))), ((w 4), .inl (k 6, 6, .inr (.inr (.inr (.inr (fun _ => none)))))), (mo, .inr (13, [.int 0, .ref (w 0), .int 0, .ref (w 1), .int 0, .int 0, .ref (w 2), .int 0, .ref (w 3), .ref (w 4), .int 0])), (q118, .inl (k 2, 4, .inl (upd (upd (upd (upd (fun _ => 0) (0 : Int32).toNatClampNeg kd) (1 : Int32).toNatClampNeg x) (2 : Int32).toNatClampNeg y) (3 : Int32).toNatClampNeg z)))] := hD
        refine lv_aload_n hx hb dX12_addRule_138 rfl (lv_at hl 0 rfl) ?_
        refine lv_dup hx hb dX12_addRule_139 rfl ?_
        refine va_get (D := D) (ci := 13) (v := .int 0) (C := RX12) (T := TX12) (N := 11) hx hb hts (by decide +kernel) hown hC.1 hP 7 rfl rfl 4 (by decide) (hts (.fieldLink RX12 65 "TriplegarthModel" "ruleMany" "I") (by decide +kernel)) (fun _ h9 => h9) rfl dX12_addRule_140 ?_
        refine lv_iconst (v := 1) hx hb dX12_addRule_143 (by decide) ?_
        refine lv_iadd hx hb dX12_addRule_144 ?_
        refine w_top (y := 1) (by decide) ?_
        refine va_put (D := D) (ci := 13) (v := .int 1) (ty := .int) (C := RX12) (T := TX12) (N := 11) hx hb hts (by decide +kernel) tyX12 tyX12_ok nmX12 hown hC.1 hP hD hS 7 rfl rfl 4 (by decide) (hts (.fieldLink RX12 65 "TriplegarthModel" "ruleMany" "I") (by decide +kernel)) (fun _ h9 => h9) rfl (by decide +kernel) rfl rfl (Nat.le_of_ble_eq_true rfl) dX12_addRule_145 (fun H locs hP hD hS => ?_)
        have hP : va_P D vwCl [((w 0), .inl (k 5, 3, .inr (.inr (.inr (.inr (fun i => some (w (5 + i)))))))), ((w 5), .inl (k 0, 768, .inl (fun _ => 0))), ((w 6), .inl (k 0, 768, .inl (fun _ => 0))), ((w 7), .inl (k 0, 768, .inl (fun _ => 0))), ((w 1), .inl (k 6, 8, .inr (.inr (.inr (.inr (va_up (fun _ => none) (0 : Int32).toNatClampNeg (some q118))))))), ((w 2), .inl (k 6, 20, .inr (.inr (.inr (.inr (fun _ => none)))))), ((w 4), .inl (k 6, 6, .inr (.inr (.inr (.inr (fun _ => none)))))), (mo, .inr (13, [.int 0, .ref (w 0), .int 0, .ref (w 1), .int 1, .int 0, .ref (w 2), .int 0, .ref (w 3), .ref (w 4), .int 0])), (q118, .inl (k 2, 4, .inl (upd (upd (upd (upd (fun _ => 0) (0 : Int32).toNatClampNeg kd) (1 : Int32).toNatClampNeg x) (2 : Int32).toNatClampNeg y) (3 : Int32).toNatClampNeg z)))] H := hP
        have hD : va_D A [((w 0), .inl (k 5, 3, .inr (.inr (.inr (.inr (fun i => some (w (5 + i)))))))), ((w 5), .inl (k 0, 768, .inl (fun _ => 0))), ((w 6), .inl (k 0, 768, .inl (fun _ => 0))), ((w 7), .inl (k 0, 768, .inl (fun _ => 0))), ((w 1), .inl (k 6, 8, .inr (.inr (.inr (.inr (va_up (fun _ => none) (0 : Int32).toNatClampNeg (some q118))))))), ((w 2), .inl (k 6, 20, .inr (.inr (.inr (.inr (fun _ => none)))))), ((w 4), .inl (k 6, 6, .inr (.inr (.inr (.inr (fun _ => none)))))), (mo, .inr (13, [.int 0, .ref (w 0), .int 0, .ref (w 1), .int 1, .int 0, .ref (w 2), .int 0, .ref (w 3), .ref (w 4), .int 0])), (q118, .inl (k 2, 4, .inl (upd (upd (upd (upd (fun _ => 0) (0 : Int32).toNatClampNeg kd) (1 : Int32).toNatClampNeg x) (2 : Int32).toNatClampNeg y) (3 : Int32).toNatClampNeg z)))] := hD
        refine lv_aload_n hx hb dX12_addRule_148 rfl (lv_at hl 0 rfl) ?_
        refine va_get (D := D) (ci := 13) (v := .int 1) (C := RX12) (T := TX12) (N := 11) hx hb hts (by decide +kernel) hown hC.1 hP 7 rfl rfl 4 (by decide) (hts (.fieldLink RX12 65 "TriplegarthModel" "ruleMany" "I") (by decide +kernel)) (fun _ h9 => h9) rfl dX12_addRule_149 ?_
        refine lv_iconst (v := 1) hx hb dX12_addRule_152 (by decide) ?_
        refine lv_isub hx hb dX12_addRule_153 ?_
        refine w_top (y := 0) (by decide) ?_
        exact W.iret (v := 0) hx hb hr (fun t ht hW => ⟨⟨0, [.int 0, .ref (w 0), .int 0, .ref (w 1), .int 1, .int 0, .ref (w 2), .int 0, .ref (w 3), .ref (w 4), .int 0], rfl, Or.inl ⟨f_80, rfl, rfl⟩, ⟨by rw [ht]; exact hP.sub [7] rfl, hD.sub [7] (by decide) rfl⟩⟩, hS.F ht⟩) hS.2.2 dX12_addRule_154
      · have f_80 := bi_z e_r6 c_80
        refine lv_iconst (v := 1) hx hb dX12_addRule_83 (by decide) ?_
        refine lv_goto (tgt := 101) hx hb dX12_addRule_84 (by decide) ?_
        have hPc := hP.sub (ws' := [(mo, .inr (13, [.int 0, .ref (w 0), .int 0, .ref (w 1), .int 0, .int 0, .ref (w 2), .int 0, .ref (w 3), .ref (w 4), .int 0]))]) [0] rfl
        have hDc := hD.sub (ws' := [(mo, .inr (13, [.int 0, .ref (w 0), .int 0, .ref (w 1), .int 0, .int 0, .ref (w 2), .int 0, .ref (w 3), .ref (w 4), .int 0]))]) [0] (by decide) rfl
        have hFc := va_free (wc := [(mo, .inr (13, [.int 0, .ref (w 0), .int 0, .ref (w 1), .int 0, .int 0, .ref (w 2), .int 0, .ref (w 3), .ref (w 4), .int 0]))]) hD hS hA [0] rfl
        refine va_calli (va_runV (As := [.int 1]) (rest := []) ⟨hx, hb, hml, hown, hts⟩ (k_X12_fails l D k e0 s.heap.size mo w 0 1) (cwV 1 hts gX12_addRule_X12_fails rfl rfl rfl (by decide +kernel) ⟨Nat.le_of_ble_eq_true rfl, Nat.le_of_ble_eq_true rfl⟩) ⟨mPc_fb, va_recv hC.1 hPc (ci := 13) (q0 := 0) rfl rfl, mPc_go hC hHf hS hPc hDc hFc⟩ rfl rfl hl.1 rfl (lv_room (Nat.le_of_ble_eq_true rfl)) dX12_addRule_101 ⟨Nat.le_of_ble_eq_true rfl, Nat.le_of_ble_eq_true rfl⟩) hS (fun q9 _ h9 => hFc q9 h9) hFc (fun r5 u4 t H locs ht hvm hw_r5 hB hz1 hk1 hS => ?_)
        obtain ⟨hP1, hD1⟩ := hB
        rw [ht] at hP1
        obtain ⟨hP, hD⟩ := va_join (wr := [((w 0), .inl (k 5, 3, .inr (.inr (.inr (.inr (fun i => some (w (5 + i)))))))), ((w 5), .inl (k 0, 768, .inl (fun _ => 0))), ((w 6), .inl (k 0, 768, .inl (fun _ => 0))), ((w 7), .inl (k 0, 768, .inl (fun _ => 0))), ((w 1), .inl (k 6, 8, .inr (.inr (.inr (.inr (fun _ => none)))))), ((w 2), .inl (k 6, 20, .inr (.inr (.inr (.inr (fun _ => none)))))), ((w 4), .inl (k 6, 6, .inr (.inr (.inr (.inr (fun _ => none))))))]) (w1 := [(mo, .inr (13, [.int 1, .ref (w 0), .int 0, .ref (w 1), .int 0, .int 0, .ref (w 2), .int 0, .ref (w 3), .ref (w 4), .int 0]))]) hP hD [0] [1, 2, 3, 4, 5, 6, 7] rfl rfl (by decide) (by decide) hk1 hFc hP1 hD1
        have hP : va_P D vwCl [((w 0), .inl (k 5, 3, .inr (.inr (.inr (.inr (fun i => some (w (5 + i)))))))), ((w 5), .inl (k 0, 768, .inl (fun _ => 0))), ((w 6), .inl (k 0, 768, .inl (fun _ => 0))), ((w 7), .inl (k 0, 768, .inl (fun _ => 0))), ((w 1), .inl (k 6, 8, .inr (.inr (.inr (.inr (fun _ => none)))))), ((w 2), .inl (k 6, 20, .inr (.inr (.inr (.inr (fun _ => none)))))), ((w 4), .inl (k 6, 6, .inr (.inr (.inr (.inr (fun _ => none)))))), (mo, .inr (13, [.int 1, .ref (w 0), .int 0, .ref (w 1), .int 0, .int 0, .ref (w 2), .int 0, .ref (w 3), .ref (w 4), .int 0]))] H := hP
        have hD : va_D A [((w 0), .inl (k 5, 3, .inr (.inr (.inr (.inr (fun i => some (w (5 + i)))))))), ((w 5), .inl (k 0, 768, .inl (fun _ => 0))), ((w 6), .inl (k 0, 768, .inl (fun _ => 0))), ((w 7), .inl (k 0, 768, .inl (fun _ => 0))), ((w 1), .inl (k 6, 8, .inr (.inr (.inr (.inr (fun _ => none)))))), ((w 2), .inl (k 6, 20, .inr (.inr (.inr (.inr (fun _ => none)))))), ((w 4), .inl (k 6, 6, .inr (.inr (.inr (.inr (fun _ => none)))))), (mo, .inr (13, [.int 1, .ref (w 0), .int 0, .ref (w 1), .int 0, .int 0, .ref (w 2), .int 0, .ref (w 3), .ref (w 4), .int 0]))] := hD
        have e_r5 : r5 = 1 := hw_r5.trans (by decide)
        subst e_r5
        refine lv_if_eq (tgt := 109) hx hb dX12_addRule_104 (by decide) (fun c_104 => absurd c_104 (by decide)) (fun c_104 => ?_)
        refine lv_iconst (v := 0) hx hb dX12_addRule_107 (by decide) ?_
        refine W.widen (k := 1) (n := 4) (Nat.le_of_ble_eq_true rfl) (Nat.le_of_ble_eq_true rfl) ?_
        exact W.iret (v := 0) hx hb hr (fun t ht hW => ⟨⟨0, [.int 1, .ref (w 0), .int 0, .ref (w 1), .int 0, .int 0, .ref (w 2), .int 0, .ref (w 3), .ref (w 4), .int 0], rfl, Or.inr ⟨f_80, rfl⟩, ⟨by rw [ht]; exact hP.sub [7] rfl, hD.sub [7] (by decide) rfl⟩⟩, hS.F ht⟩) hS.2.2 dX12_addRule_108
    · intro hj_r6
      refine lv_iload hx hb dX12_addRule_31 (lv_at hl 5 rfl) ?_
      refine lv_if_eq (tgt := 74) hx hb dX12_addRule_33 (by decide) (fun c_33 => ?_) (fun c_33 => ?_)
      · have f_33 := bi_z e_r5 c_33
        refine lv_iconst (v := 0) hx hb dX12_addRule_74 (by decide) ?_
        refine lv_istore (lv' := [(6, .int 0), (0, .ref mo), (1, .int kd), (2, .int x), (3, .int y), (4, .int z), (5, .int r5)]) hx hb dX12_addRule_75 hl (by decide) rfl (fun ls hl => ?_)
        exact hj_r6 _ _ ⟨hS, _, bi_f (by omega), lv_sub hl [1, 2, 3, 4, 5, 6, 0] rfl⟩
      · have f_33 := bi_n e_r5 c_33
        refine lv_iload_n hx hb dX12_addRule_36 rfl (lv_at hl 2 rfl) ?_
        refine pz_i (va_runS (As := [.int x]) (rest := []) ⟨hx, hb, hml, hown, hts⟩ (k_X12_isName l D k s.heap x) (va_cwS 1 hts gX12_addRule_X12_isName rfl rfl rfl (by decide +kernel) ⟨Nat.le_of_ble_eq_true rfl, Nat.le_of_ble_eq_true rfl⟩) ⟨pPc_fb, pPc_go hC⟩ rfl rfl hl.1 rfl (lv_room (Nat.le_of_ble_eq_true rfl)) dX12_addRule_37 ⟨Nat.le_of_ble_eq_true rfl, Nat.le_of_ble_eq_true rfl⟩) hS (fun r7 locs hw_r7 hS => ?_)
        refine lv_if_eq (tgt := 74) hx hb dX12_addRule_40 (by decide) (fun c_40 => ?_) (fun c_40 => ?_)
        · have f_40 := bi_z hw_r7 c_40
          refine lv_iconst (v := 0) hx hb dX12_addRule_74 (by decide) ?_
          refine lv_istore (lv' := [(6, .int 0), (0, .ref mo), (1, .int kd), (2, .int x), (3, .int y), (4, .int z), (5, .int r5)]) hx hb dX12_addRule_75 hl (by decide) rfl (fun ls hl => ?_)
          exact hj_r6 _ _ ⟨hS, _, bi_f (by omega), lv_sub hl [1, 2, 3, 4, 5, 6, 0] rfl⟩
        · have f_40 := bi_n hw_r7 c_40
          refine lv_iload_n hx hb dX12_addRule_43 rfl (lv_at hl 1 rfl) ?_
          refine lv_bipush (v := 116) hx hb dX12_addRule_44 (by decide) ?_
          refine lv_icmp_eq (tgt := 56) hx hb dX12_addRule_46 (by decide) (fun c_46 => ?_) (fun c_46 => ?_)
          · have g_46 : kd.toInt = 116 := congrArg Int32.toInt c_46
            refine lv_iload_n hx hb dX12_addRule_56 rfl (lv_at hl 1 rfl) ?_
            refine lv_bipush (v := 99) hx hb dX12_addRule_57 (by decide) ?_
            refine lv_icmp_ne (tgt := 70) hx hb dX12_addRule_59 (by decide) (fun c_59 => ?_) (fun c_59 => ?_)
            · have g_59 : ¬ kd.toInt = 99 := fun q9 => c_59 (Int32.toInt_inj.mp q9)
              refine lv_iconst (v := 1) hx hb dX12_addRule_70 (by decide) ?_
              refine lv_goto (tgt := 75) hx hb dX12_addRule_71 (by decide) ?_
              refine lv_istore (lv' := [(6, .int 1), (0, .ref mo), (1, .int kd), (2, .int x), (3, .int y), (4, .int z), (5, .int r5)]) hx hb dX12_addRule_75 hl (by decide) rfl (fun ls hl => ?_)
              exact hj_r6 _ _ ⟨hS, _, bi_t (by omega), lv_sub hl [1, 2, 3, 4, 5, 6, 0] rfl⟩
            · have g_59 : kd.toInt = 99 := congrArg Int32.toInt c_59
              refine lv_iload hx hb dX12_addRule_62 (lv_at hl 4 rfl) ?_
              refine pz_i (va_runS (As := [.int z]) (rest := []) ⟨hx, hb, hml, hown, hts⟩ (k_X12_isName l D k s.heap z) (va_cwS 1 hts gX12_addRule_X12_isName rfl rfl rfl (by decide +kernel) ⟨Nat.le_of_ble_eq_true rfl, Nat.le_of_ble_eq_true rfl⟩) ⟨pPc_fb, pPc_go hC⟩ rfl rfl hl.1 rfl (lv_room (Nat.le_of_ble_eq_true rfl)) dX12_addRule_64 ⟨Nat.le_of_ble_eq_true rfl, Nat.le_of_ble_eq_true rfl⟩) hS (fun r8 locs hw_r8 hS => ?_)
              refine lv_if_eq (tgt := 74) hx hb dX12_addRule_67 (by decide) (fun c_67 => ?_) (fun c_67 => ?_)
              · have f_67 := bi_z hw_r8 c_67
                refine lv_iconst (v := 0) hx hb dX12_addRule_74 (by decide) ?_
                refine lv_istore (lv' := [(6, .int 0), (0, .ref mo), (1, .int kd), (2, .int x), (3, .int y), (4, .int z), (5, .int r5)]) hx hb dX12_addRule_75 hl (by decide) rfl (fun ls hl => ?_)
                exact hj_r6 _ _ ⟨hS, _, bi_f (by omega), lv_sub hl [1, 2, 3, 4, 5, 6, 0] rfl⟩
              · have f_67 := bi_n hw_r8 c_67
                refine lv_iconst (v := 1) hx hb dX12_addRule_70 (by decide) ?_
                refine lv_goto (tgt := 75) hx hb dX12_addRule_71 (by decide) ?_
                refine lv_istore (lv' := [(6, .int 1), (0, .ref mo), (1, .int kd), (2, .int x), (3, .int y), (4, .int z), (5, .int r5)]) hx hb dX12_addRule_75 hl (by decide) rfl (fun ls hl => ?_)
                exact hj_r6 _ _ ⟨hS, _, bi_t (by omega), lv_sub hl [1, 2, 3, 4, 5, 6, 0] rfl⟩
          · have g_46 : ¬ kd.toInt = 116 := fun q9 => c_46 (Int32.toInt_inj.mp q9)
            refine lv_iload_n hx hb dX12_addRule_49 rfl (lv_at hl 3 rfl) ?_
            refine pz_i (va_runS (As := [.int y]) (rest := []) ⟨hx, hb, hml, hown, hts⟩ (k_X12_isName l D k s.heap y) (va_cwS 1 hts gX12_addRule_X12_isName rfl rfl rfl (by decide +kernel) ⟨Nat.le_of_ble_eq_true rfl, Nat.le_of_ble_eq_true rfl⟩) ⟨pPc_fb, pPc_go hC⟩ rfl rfl hl.1 rfl (lv_room (Nat.le_of_ble_eq_true rfl)) dX12_addRule_50 ⟨Nat.le_of_ble_eq_true rfl, Nat.le_of_ble_eq_true rfl⟩) hS (fun r9 locs hw_r9 hS => ?_)
            refine lv_if_eq (tgt := 74) hx hb dX12_addRule_53 (by decide) (fun c_53 => ?_) (fun c_53 => ?_)
            · have f_53 := bi_z hw_r9 c_53
              refine lv_iconst (v := 0) hx hb dX12_addRule_74 (by decide) ?_
              refine lv_istore (lv' := [(6, .int 0), (0, .ref mo), (1, .int kd), (2, .int x), (3, .int y), (4, .int z), (5, .int r5)]) hx hb dX12_addRule_75 hl (by decide) rfl (fun ls hl => ?_)
              exact hj_r6 _ _ ⟨hS, _, bi_f (by omega), lv_sub hl [1, 2, 3, 4, 5, 6, 0] rfl⟩
            · have f_53 := bi_n hw_r9 c_53
              refine lv_iload_n hx hb dX12_addRule_56 rfl (lv_at hl 1 rfl) ?_
              refine lv_bipush (v := 99) hx hb dX12_addRule_57 (by decide) ?_
              refine lv_icmp_ne (tgt := 70) hx hb dX12_addRule_59 (by decide) (fun c_59 => ?_) (fun c_59 => ?_)
              · have g_59 : ¬ kd.toInt = 99 := fun q9 => c_59 (Int32.toInt_inj.mp q9)
                refine lv_iconst (v := 1) hx hb dX12_addRule_70 (by decide) ?_
                refine lv_goto (tgt := 75) hx hb dX12_addRule_71 (by decide) ?_
                refine lv_istore (lv' := [(6, .int 1), (0, .ref mo), (1, .int kd), (2, .int x), (3, .int y), (4, .int z), (5, .int r5)]) hx hb dX12_addRule_75 hl (by decide) rfl (fun ls hl => ?_)
                exact hj_r6 _ _ ⟨hS, _, bi_t (by omega), lv_sub hl [1, 2, 3, 4, 5, 6, 0] rfl⟩
              · have g_59 : kd.toInt = 99 := congrArg Int32.toInt c_59
                refine lv_iload hx hb dX12_addRule_62 (lv_at hl 4 rfl) ?_
                refine pz_i (va_runS (As := [.int z]) (rest := []) ⟨hx, hb, hml, hown, hts⟩ (k_X12_isName l D k s.heap z) (va_cwS 1 hts gX12_addRule_X12_isName rfl rfl rfl (by decide +kernel) ⟨Nat.le_of_ble_eq_true rfl, Nat.le_of_ble_eq_true rfl⟩) ⟨pPc_fb, pPc_go hC⟩ rfl rfl hl.1 rfl (lv_room (Nat.le_of_ble_eq_true rfl)) dX12_addRule_64 ⟨Nat.le_of_ble_eq_true rfl, Nat.le_of_ble_eq_true rfl⟩) hS (fun r10 locs hw_r10 hS => ?_)
                refine lv_if_eq (tgt := 74) hx hb dX12_addRule_67 (by decide) (fun c_67 => ?_) (fun c_67 => ?_)
                · have f_67 := bi_z hw_r10 c_67
                  refine lv_iconst (v := 0) hx hb dX12_addRule_74 (by decide) ?_
                  refine lv_istore (lv' := [(6, .int 0), (0, .ref mo), (1, .int kd), (2, .int x), (3, .int y), (4, .int z), (5, .int r5)]) hx hb dX12_addRule_75 hl (by decide) rfl (fun ls hl => ?_)
                  exact hj_r6 _ _ ⟨hS, _, bi_f (by omega), lv_sub hl [1, 2, 3, 4, 5, 6, 0] rfl⟩
                · have f_67 := bi_n hw_r10 c_67
                  refine lv_iconst (v := 1) hx hb dX12_addRule_70 (by decide) ?_
                  refine lv_goto (tgt := 75) hx hb dX12_addRule_71 (by decide) ?_
                  refine lv_istore (lv' := [(6, .int 1), (0, .ref mo), (1, .int kd), (2, .int x), (3, .int y), (4, .int z), (5, .int r5)]) hx hb dX12_addRule_75 hl (by decide) rfl (fun ls hl => ?_)
                  exact hj_r6 _ _ ⟨hS, _, bi_t (by omega), lv_sub hl [1, 2, 3, 4, 5, 6, 0] rfl⟩
  · intro hj_r5
    refine lv_iload_n hx hb dX12_addRule_0 rfl (lv_at hl 1 rfl) ?_
    refine lv_bipush (v := 115) hx hb dX12_addRule_1 (by decide) ?_
    refine lv_icmp_eq (tgt := 24) hx hb dX12_addRule_3 (by decide) (fun c_3 => ?_) (fun c_3 => ?_)
    · have g_3 : kd.toInt = 115 := congrArg Int32.toInt c_3
      refine lv_iconst (v := 1) hx hb dX12_addRule_24 (by decide) ?_
      refine lv_goto (tgt := 29) hx hb dX12_addRule_25 (by decide) ?_
      refine lv_istore (lv' := [(5, .int 1), (0, .ref mo), (1, .int kd), (2, .int x), (3, .int y), (4, .int z)]) hx hb dX12_addRule_29 hl (by decide) rfl (fun ls hl => ?_)
      exact hj_r5 _ _ ⟨hS, _, bi_t (by omega), lv_sub hl [1, 2, 3, 4, 5, 0] rfl⟩
    · have g_3 : ¬ kd.toInt = 115 := fun q9 => c_3 (Int32.toInt_inj.mp q9)
      refine lv_iload_n hx hb dX12_addRule_6 rfl (lv_at hl 1 rfl) ?_
      refine lv_bipush (v := 105) hx hb dX12_addRule_7 (by decide) ?_
      refine lv_icmp_eq (tgt := 24) hx hb dX12_addRule_9 (by decide) (fun c_9 => ?_) (fun c_9 => ?_)
      · have g_9 : kd.toInt = 105 := congrArg Int32.toInt c_9
        refine lv_iconst (v := 1) hx hb dX12_addRule_24 (by decide) ?_
        refine lv_goto (tgt := 29) hx hb dX12_addRule_25 (by decide) ?_
        refine lv_istore (lv' := [(5, .int 1), (0, .ref mo), (1, .int kd), (2, .int x), (3, .int y), (4, .int z)]) hx hb dX12_addRule_29 hl (by decide) rfl (fun ls hl => ?_)
        exact hj_r5 _ _ ⟨hS, _, bi_t (by omega), lv_sub hl [1, 2, 3, 4, 5, 0] rfl⟩
      · have g_9 : ¬ kd.toInt = 105 := fun q9 => c_9 (Int32.toInt_inj.mp q9)
        refine lv_iload_n hx hb dX12_addRule_12 rfl (lv_at hl 1 rfl) ?_
        refine lv_bipush (v := 116) hx hb dX12_addRule_13 (by decide) ?_
        refine lv_icmp_eq (tgt := 24) hx hb dX12_addRule_15 (by decide) (fun c_15 => ?_) (fun c_15 => ?_)
        · have g_15 : kd.toInt = 116 := congrArg Int32.toInt c_15
          refine lv_iconst (v := 1) hx hb dX12_addRule_24 (by decide) ?_
          refine lv_goto (tgt := 29) hx hb dX12_addRule_25 (by decide) ?_
          refine lv_istore (lv' := [(5, .int 1), (0, .ref mo), (1, .int kd), (2, .int x), (3, .int y), (4, .int z)]) hx hb dX12_addRule_29 hl (by decide) rfl (fun ls hl => ?_)
          exact hj_r5 _ _ ⟨hS, _, bi_t (by omega), lv_sub hl [1, 2, 3, 4, 5, 0] rfl⟩
        · have g_15 : ¬ kd.toInt = 116 := fun q9 => c_15 (Int32.toInt_inj.mp q9)
          refine lv_iload_n hx hb dX12_addRule_18 rfl (lv_at hl 1 rfl) ?_
          refine lv_bipush (v := 99) hx hb dX12_addRule_19 (by decide) ?_
          refine lv_icmp_ne (tgt := 28) hx hb dX12_addRule_21 (by decide) (fun c_21 => ?_) (fun c_21 => ?_)
          · have g_21 : ¬ kd.toInt = 99 := fun q9 => c_21 (Int32.toInt_inj.mp q9)
            refine lv_iconst (v := 0) hx hb dX12_addRule_28 (by decide) ?_
            refine lv_istore (lv' := [(5, .int 0), (0, .ref mo), (1, .int kd), (2, .int x), (3, .int y), (4, .int z)]) hx hb dX12_addRule_29 hl (by decide) rfl (fun ls hl => ?_)
            exact hj_r5 _ _ ⟨hS, _, bi_f (by omega), lv_sub hl [1, 2, 3, 4, 5, 0] rfl⟩
          · have g_21 : kd.toInt = 99 := congrArg Int32.toInt c_21
            refine lv_iconst (v := 1) hx hb dX12_addRule_24 (by decide) ?_
            refine lv_goto (tgt := 29) hx hb dX12_addRule_25 (by decide) ?_
            refine lv_istore (lv' := [(5, .int 1), (0, .ref mo), (1, .int kd), (2, .int x), (3, .int y), (4, .int z)]) hx hb dX12_addRule_29 hl (by decide) rfl (fun ls hl => ?_)
            exact hj_r5 _ _ ⟨hS, _, bi_t (by omega), lv_sub hl [1, 2, 3, 4, 5, 0] rfl⟩

set_option maxHeartbeats 4000000 in
set_option maxRecDepth 100000 in
theorem k_X12_clearRules (l : Launch) (D : va_G) (k : Nat → ClassId) (e0 : Nat) (sz : Nat) (mo : Nat) (w : Nat → Nat)  : Met l yX12_clearRules wsX12_clearRules ({ frames := 0, cells := 0, slots := 0, locals := 0 }) (mPc D k e0 sz [.ref mo] [(mo, .inr (13, [.int 0, .ref (w 0), .int 0, .ref (w 1), .int 0, .int 0, .ref (w 2), .int 0, .ref (w 3), .ref (w 4), .int 0])), ((w 0), .inl (k 5, 3, .inr (.inr (.inr (.inr (fun i => some (w (5 + i)))))))), ((w 5), .inl (k 0, 768, .inl (fun _ => 0))), ((w 6), .inl (k 0, 768, .inl (fun _ => 0))), ((w 7), .inl (k 0, 768, .inl (fun _ => 0))), ((w 1), .inl (k 6, 8, .inr (.inr (.inr (.inr (fun _ => none)))))), ((w 2), .inl (k 6, 20, .inr (.inr (.inr (.inr (fun _ => none)))))), ((w 4), .inl (k 6, 6, .inr (.inr (.inr (.inr (fun _ => none))))))]) (va_Qi (fun r (u : List Value) => u[0]? = some (.int 0) ∧ r = 0) (fun u t => va_P D vwCl [(mo, .inr (13, u))] t.heap ∧ va_D (va_A [(mo, .inr (13, [.int 0, .ref (w 0), .int 0, .ref (w 1), .int 0, .int 0, .ref (w 2), .int 0, .ref (w 3), .ref (w 4), .int 0])), ((w 0), .inl (k 5, 3, .inr (.inr (.inr (.inr (fun i => some (w (5 + i)))))))), ((w 5), .inl (k 0, 768, .inl (fun _ => 0))), ((w 6), .inl (k 0, 768, .inl (fun _ => 0))), ((w 7), .inl (k 0, 768, .inl (fun _ => 0))), ((w 1), .inl (k 6, 8, .inr (.inr (.inr (.inr (fun _ => none)))))), ((w 2), .inl (k 6, 20, .inr (.inr (.inr (.inr (fun _ => none)))))), ((w 4), .inl (k 6, 6, .inr (.inr (.inr (.inr (fun _ => none))))))] sz) [(mo, .inr (13, u))]) (va_A [(mo, .inr (13, [.int 0, .ref (w 0), .int 0, .ref (w 1), .int 0, .int 0, .ref (w 2), .int 0, .ref (w 3), .ref (w 4), .int 0])), ((w 0), .inl (k 5, 3, .inr (.inr (.inr (.inr (fun i => some (w (5 + i)))))))), ((w 5), .inl (k 0, 768, .inl (fun _ => 0))), ((w 6), .inl (k 0, 768, .inl (fun _ => 0))), ((w 7), .inl (k 0, 768, .inl (fun _ => 0))), ((w 1), .inl (k 6, 8, .inr (.inr (.inr (.inr (fun _ => none)))))), ((w 2), .inl (k 6, 20, .inr (.inr (.inr (.inr (fun _ => none)))))), ((w 4), .inl (k 6, 6, .inr (.inr (.inr (.inr (fun _ => none))))))] sz)) 0 0 (va_A [(mo, .inr (13, [.int 0, .ref (w 0), .int 0, .ref (w 1), .int 0, .int 0, .ref (w 2), .int 0, .ref (w 3), .ref (w 4), .int 0])), ((w 0), .inl (k 5, 3, .inr (.inr (.inr (.inr (fun i => some (w (5 + i)))))))), ((w 5), .inl (k 0, 768, .inl (fun _ => 0))), ((w 6), .inl (k 0, 768, .inl (fun _ => 0))), ((w 7), .inl (k 0, 768, .inl (fun _ => 0))), ((w 1), .inl (k 6, 8, .inr (.inr (.inr (.inr (fun _ => none)))))), ((w 2), .inl (k 6, 20, .inr (.inr (.inr (.inr (fun _ => none)))))), ((w 4), .inl (k 6, 6, .inr (.inr (.inr (.inr (fun _ => none))))))] sz) := by
  refine Met.ofW (cc := cX12_clearRules) (maxL := 2) (ret := (some .int)) (by decide) rfl ?_
  intro p e s m args below meth c s₁ B hml hv
  obtain ⟨rfl, rfl, hP, hC, hD0, hHf⟩ := hv
  have hx := B.exec
  have hb := B.bytes
  have hr := B.returns
  have hts := atoms_spec (ws := wsX12_clearRules) B.pre
  have hown : s.vm.findClass RX12 = some m.cls := findClass_of_methodNamed B.named
  have hlocks := B.notSynchronized
  have hD := hD0.self (sz := s.heap.size)
  generalize hAe : va_A [(mo, .inr (13, [.int 0, .ref (w 0), .int 0, .ref (w 1), .int 0, .int 0, .ref (w 2), .int 0, .ref (w 3), .ref (w 4), .int 0])), ((w 0), .inl (k 5, 3, .inr (.inr (.inr (.inr (fun i => some (w (5 + i)))))))), ((w 5), .inl (k 0, 768, .inl (fun _ => 0))), ((w 6), .inl (k 0, 768, .inl (fun _ => 0))), ((w 7), .inl (k 0, 768, .inl (fun _ => 0))), ((w 1), .inl (k 6, 8, .inr (.inr (.inr (.inr (fun _ => none)))))), ((w 2), .inl (k 6, 20, .inr (.inr (.inr (.inr (fun _ => none)))))), ((w 4), .inl (k 6, 6, .inr (.inr (.inr (.inr (fun _ => none))))))] s.heap.size = A at hD hHf ⊢
  have hA : ∀ q : Nat, s.heap.size ≤ q → A q := fun q h => by rw [← hAe]; exact Or.inr h
  have hS : va_S A s.heap s.heap [] := va_S.rf
  refine w_entry (Nat.le_of_ble_eq_true rfl) (fun ls hl => ?_)
  have hl : lv_has ls 2 [(0, .ref mo)] := hl
  refine lv_aload_n hx hb dX12_clearRules_0 rfl (lv_at hl 0 rfl) ?_
  refine lv_iconst (v := 0) hx hb dX12_clearRules_1 (by decide) ?_
  refine va_put (D := D) (ci := 13) (v := .int 0) (ty := .int) (C := RX12) (T := TX12) (N := 11) hx hb hts (by decide +kernel) tyX12 tyX12_ok nmX12 hown hC.1 hP hD hS 0 rfl rfl 0 (by decide) (hts (.fieldLink RX12 32 "TriplegarthModel" "thrown" "I") (by decide +kernel)) (fun _ h9 => h9) rfl (by decide +kernel) rfl rfl (Nat.le_of_ble_eq_true rfl) dX12_clearRules_2 (fun H locs hP hD hS => ?_)
  have hP : va_P D vwCl [(mo, .inr (13, [.int 0, .ref (w 0), .int 0, .ref (w 1), .int 0, .int 0, .ref (w 2), .int 0, .ref (w 3), .ref (w 4), .int 0])), ((w 0), .inl (k 5, 3, .inr (.inr (.inr (.inr (fun i => some (w (5 + i)))))))), ((w 5), .inl (k 0, 768, .inl (fun _ => 0))), ((w 6), .inl (k 0, 768, .inl (fun _ => 0))), ((w 7), .inl (k 0, 768, .inl (fun _ => 0))), ((w 1), .inl (k 6, 8, .inr (.inr (.inr (.inr (fun _ => none)))))), ((w 2), .inl (k 6, 20, .inr (.inr (.inr (.inr (fun _ => none)))))), ((w 4), .inl (k 6, 6, .inr (.inr (.inr (.inr (fun _ => none))))))] H := hP
  have hD : va_D A [(mo, .inr (13, [.int 0, .ref (w 0), .int 0, .ref (w 1), .int 0, .int 0, .ref (w 2), .int 0, .ref (w 3), .ref (w 4), .int 0])), ((w 0), .inl (k 5, 3, .inr (.inr (.inr (.inr (fun i => some (w (5 + i)))))))), ((w 5), .inl (k 0, 768, .inl (fun _ => 0))), ((w 6), .inl (k 0, 768, .inl (fun _ => 0))), ((w 7), .inl (k 0, 768, .inl (fun _ => 0))), ((w 1), .inl (k 6, 8, .inr (.inr (.inr (.inr (fun _ => none)))))), ((w 2), .inl (k 6, 20, .inr (.inr (.inr (.inr (fun _ => none)))))), ((w 4), .inl (k 6, 6, .inr (.inr (.inr (.inr (fun _ => none))))))] := hD
  refine lv_aload_n hx hb dX12_clearRules_5 rfl (lv_at hl 0 rfl) ?_
  refine va_get (D := D) (ci := 13) (v := .int 0) (C := RX12) (T := TX12) (N := 11) hx hb hts (by decide +kernel) hown hC.1 hP 0 rfl rfl 4 (by decide) (hts (.fieldLink RX12 65 "TriplegarthModel" "ruleMany" "I") (by decide +kernel)) (fun _ h9 => h9) rfl dX12_clearRules_6 ?_
  refine lv_istore_n (lv' := [(1, .int 0), (0, .ref mo)]) hx hb dX12_clearRules_9 rfl hl (by decide) rfl (fun ls hl => ?_)
  refine lv_aload_n hx hb dX12_clearRules_10 rfl (lv_at hl 1 rfl) ?_
  refine lv_iconst (v := 0) hx hb dX12_clearRules_11 (by decide) ?_
  refine va_put (D := D) (ci := 13) (v := .int 0) (ty := .int) (C := RX12) (T := TX12) (N := 11) hx hb hts (by decide +kernel) tyX12 tyX12_ok nmX12 hown hC.1 hP hD hS 0 rfl rfl 4 (by decide) (hts (.fieldLink RX12 65 "TriplegarthModel" "ruleMany" "I") (by decide +kernel)) (fun _ h9 => h9) rfl (by decide +kernel) rfl rfl (Nat.le_of_ble_eq_true rfl) dX12_clearRules_12 (fun H locs hP hD hS => ?_)
  have hP : va_P D vwCl [(mo, .inr (13, [.int 0, .ref (w 0), .int 0, .ref (w 1), .int 0, .int 0, .ref (w 2), .int 0, .ref (w 3), .ref (w 4), .int 0])), ((w 0), .inl (k 5, 3, .inr (.inr (.inr (.inr (fun i => some (w (5 + i)))))))), ((w 5), .inl (k 0, 768, .inl (fun _ => 0))), ((w 6), .inl (k 0, 768, .inl (fun _ => 0))), ((w 7), .inl (k 0, 768, .inl (fun _ => 0))), ((w 1), .inl (k 6, 8, .inr (.inr (.inr (.inr (fun _ => none)))))), ((w 2), .inl (k 6, 20, .inr (.inr (.inr (.inr (fun _ => none)))))), ((w 4), .inl (k 6, 6, .inr (.inr (.inr (.inr (fun _ => none))))))] H := hP
  have hD : va_D A [(mo, .inr (13, [.int 0, .ref (w 0), .int 0, .ref (w 1), .int 0, .int 0, .ref (w 2), .int 0, .ref (w 3), .ref (w 4), .int 0])), ((w 0), .inl (k 5, 3, .inr (.inr (.inr (.inr (fun i => some (w (5 + i)))))))), ((w 5), .inl (k 0, 768, .inl (fun _ => 0))), ((w 6), .inl (k 0, 768, .inl (fun _ => 0))), ((w 7), .inl (k 0, 768, .inl (fun _ => 0))), ((w 1), .inl (k 6, 8, .inr (.inr (.inr (.inr (fun _ => none)))))), ((w 2), .inl (k 6, 20, .inr (.inr (.inr (.inr (fun _ => none)))))), ((w 4), .inl (k 6, 6, .inr (.inr (.inr (.inr (fun _ => none))))))] := hD
  refine lv_iload_n hx hb dX12_clearRules_15 rfl (lv_at hl 0 rfl) ?_
  exact W.iret (v := 0) hx hb hr (fun t ht hW => ⟨⟨0, [.int 0, .ref (w 0), .int 0, .ref (w 1), .int 0, .int 0, .ref (w 2), .int 0, .ref (w 3), .ref (w 4), .int 0], rfl, ⟨rfl, rfl⟩, ⟨by rw [ht]; exact hP.sub [0] rfl, hD.sub [0] (by decide) rfl⟩⟩, hS.F ht⟩) hS.2.2 dX12_clearRules_16

set_option maxHeartbeats 4000000 in
set_option maxRecDepth 100000 in
theorem k_X12_setEntailed (l : Launch) (D : va_G) (k : Nat → ClassId) (e0 : Nat) (sz : Nat) (mo : Nat) (w : Nat → Nat) (b : Int32) (hb01 : b = 0 ∨ b = 1) : Met l yX12_setEntailed wsX12_setEntailed ({ frames := 0, cells := 0, slots := 0, locals := 0 }) (mPc D k e0 sz [.ref mo, .int b] [(mo, .inr (13, [.int 0, .ref (w 0), .int 0, .ref (w 1), .int 0, .int 0, .ref (w 2), .int 0, .ref (w 3), .ref (w 4), .int 0])), ((w 0), .inl (k 5, 3, .inr (.inr (.inr (.inr (fun i => some (w (5 + i)))))))), ((w 5), .inl (k 0, 768, .inl (fun _ => 0))), ((w 6), .inl (k 0, 768, .inl (fun _ => 0))), ((w 7), .inl (k 0, 768, .inl (fun _ => 0))), ((w 1), .inl (k 6, 8, .inr (.inr (.inr (.inr (fun _ => none)))))), ((w 2), .inl (k 6, 20, .inr (.inr (.inr (.inr (fun _ => none)))))), ((w 4), .inl (k 6, 6, .inr (.inr (.inr (.inr (fun _ => none))))))]) (va_Qi (fun r (u : List Value) => u[0]? = some (.int 0) ∧ r = 0) (fun u t => va_P D vwCl [(mo, .inr (13, u))] t.heap ∧ va_D (va_A [(mo, .inr (13, [.int 0, .ref (w 0), .int 0, .ref (w 1), .int 0, .int 0, .ref (w 2), .int 0, .ref (w 3), .ref (w 4), .int 0])), ((w 0), .inl (k 5, 3, .inr (.inr (.inr (.inr (fun i => some (w (5 + i)))))))), ((w 5), .inl (k 0, 768, .inl (fun _ => 0))), ((w 6), .inl (k 0, 768, .inl (fun _ => 0))), ((w 7), .inl (k 0, 768, .inl (fun _ => 0))), ((w 1), .inl (k 6, 8, .inr (.inr (.inr (.inr (fun _ => none)))))), ((w 2), .inl (k 6, 20, .inr (.inr (.inr (.inr (fun _ => none)))))), ((w 4), .inl (k 6, 6, .inr (.inr (.inr (.inr (fun _ => none))))))] sz) [(mo, .inr (13, u))]) (va_A [(mo, .inr (13, [.int 0, .ref (w 0), .int 0, .ref (w 1), .int 0, .int 0, .ref (w 2), .int 0, .ref (w 3), .ref (w 4), .int 0])), ((w 0), .inl (k 5, 3, .inr (.inr (.inr (.inr (fun i => some (w (5 + i)))))))), ((w 5), .inl (k 0, 768, .inl (fun _ => 0))), ((w 6), .inl (k 0, 768, .inl (fun _ => 0))), ((w 7), .inl (k 0, 768, .inl (fun _ => 0))), ((w 1), .inl (k 6, 8, .inr (.inr (.inr (.inr (fun _ => none)))))), ((w 2), .inl (k 6, 20, .inr (.inr (.inr (.inr (fun _ => none)))))), ((w 4), .inl (k 6, 6, .inr (.inr (.inr (.inr (fun _ => none))))))] sz)) 0 0 (va_A [(mo, .inr (13, [.int 0, .ref (w 0), .int 0, .ref (w 1), .int 0, .int 0, .ref (w 2), .int 0, .ref (w 3), .ref (w 4), .int 0])), ((w 0), .inl (k 5, 3, .inr (.inr (.inr (.inr (fun i => some (w (5 + i)))))))), ((w 5), .inl (k 0, 768, .inl (fun _ => 0))), ((w 6), .inl (k 0, 768, .inl (fun _ => 0))), ((w 7), .inl (k 0, 768, .inl (fun _ => 0))), ((w 1), .inl (k 6, 8, .inr (.inr (.inr (.inr (fun _ => none)))))), ((w 2), .inl (k 6, 20, .inr (.inr (.inr (.inr (fun _ => none)))))), ((w 4), .inl (k 6, 6, .inr (.inr (.inr (.inr (fun _ => none))))))] sz) := by
  refine Met.ofW (cc := cX12_setEntailed) (maxL := 3) (ret := (some .boolean)) (by decide) rfl ?_
  intro p e s m args below meth c s₁ B hml hv
  obtain ⟨rfl, rfl, hP, hC, hD0, hHf⟩ := hv
  have hx := B.exec
  have hb := B.bytes
  have hr := B.returns
  have hts := atoms_spec (ws := wsX12_setEntailed) B.pre
  have hown : s.vm.findClass RX12 = some m.cls := findClass_of_methodNamed B.named
  have hlocks := B.notSynchronized
  have hD := hD0.self (sz := s.heap.size)
  generalize hAe : va_A [(mo, .inr (13, [.int 0, .ref (w 0), .int 0, .ref (w 1), .int 0, .int 0, .ref (w 2), .int 0, .ref (w 3), .ref (w 4), .int 0])), ((w 0), .inl (k 5, 3, .inr (.inr (.inr (.inr (fun i => some (w (5 + i)))))))), ((w 5), .inl (k 0, 768, .inl (fun _ => 0))), ((w 6), .inl (k 0, 768, .inl (fun _ => 0))), ((w 7), .inl (k 0, 768, .inl (fun _ => 0))), ((w 1), .inl (k 6, 8, .inr (.inr (.inr (.inr (fun _ => none)))))), ((w 2), .inl (k 6, 20, .inr (.inr (.inr (.inr (fun _ => none)))))), ((w 4), .inl (k 6, 6, .inr (.inr (.inr (.inr (fun _ => none))))))] s.heap.size = A at hD hHf ⊢
  have hA : ∀ q : Nat, s.heap.size ≤ q → A q := fun q h => by rw [← hAe]; exact Or.inr h
  have hS : va_S A s.heap s.heap [] := va_S.rf
  refine w_entry (Nat.le_of_ble_eq_true rfl) (fun ls hl => ?_)
  have hl : lv_has ls 3 [(0, .ref mo), (1, .int b)] := hl
  refine lv_aload_n hx hb dX12_setEntailed_0 rfl (lv_at hl 0 rfl) ?_
  refine lv_iconst (v := 0) hx hb dX12_setEntailed_1 (by decide) ?_
  refine va_put (D := D) (ci := 13) (v := .int 0) (ty := .int) (C := RX12) (T := TX12) (N := 11) hx hb hts (by decide +kernel) tyX12 tyX12_ok nmX12 hown hC.1 hP hD hS 0 rfl rfl 0 (by decide) (hts (.fieldLink RX12 32 "TriplegarthModel" "thrown" "I") (by decide +kernel)) (fun _ h9 => h9) rfl (by decide +kernel) rfl rfl (Nat.le_of_ble_eq_true rfl) dX12_setEntailed_2 (fun H locs hP hD hS => ?_)
  have hP : va_P D vwCl [(mo, .inr (13, [.int 0, .ref (w 0), .int 0, .ref (w 1), .int 0, .int 0, .ref (w 2), .int 0, .ref (w 3), .ref (w 4), .int 0])), ((w 0), .inl (k 5, 3, .inr (.inr (.inr (.inr (fun i => some (w (5 + i)))))))), ((w 5), .inl (k 0, 768, .inl (fun _ => 0))), ((w 6), .inl (k 0, 768, .inl (fun _ => 0))), ((w 7), .inl (k 0, 768, .inl (fun _ => 0))), ((w 1), .inl (k 6, 8, .inr (.inr (.inr (.inr (fun _ => none)))))), ((w 2), .inl (k 6, 20, .inr (.inr (.inr (.inr (fun _ => none)))))), ((w 4), .inl (k 6, 6, .inr (.inr (.inr (.inr (fun _ => none))))))] H := hP
  have hD : va_D A [(mo, .inr (13, [.int 0, .ref (w 0), .int 0, .ref (w 1), .int 0, .int 0, .ref (w 2), .int 0, .ref (w 3), .ref (w 4), .int 0])), ((w 0), .inl (k 5, 3, .inr (.inr (.inr (.inr (fun i => some (w (5 + i)))))))), ((w 5), .inl (k 0, 768, .inl (fun _ => 0))), ((w 6), .inl (k 0, 768, .inl (fun _ => 0))), ((w 7), .inl (k 0, 768, .inl (fun _ => 0))), ((w 1), .inl (k 6, 8, .inr (.inr (.inr (.inr (fun _ => none)))))), ((w 2), .inl (k 6, 20, .inr (.inr (.inr (.inr (fun _ => none)))))), ((w 4), .inl (k 6, 6, .inr (.inr (.inr (.inr (fun _ => none))))))] := hD
  refine lv_aload_n hx hb dX12_setEntailed_5 rfl (lv_at hl 0 rfl) ?_
  refine va_get (D := D) (ci := 13) (v := .int 0) (C := RX12) (T := TX12) (N := 11) hx hb hts (by decide +kernel) hown hC.1 hP 0 rfl rfl 5 (by decide) (hts (.fieldLink RX12 87 "TriplegarthModel" "isEntailed" "Z") (by decide +kernel)) (fun _ h9 => h9) rfl dX12_setEntailed_6 ?_
  refine lv_istore_n (lv' := [(2, .int 0), (0, .ref mo), (1, .int b)]) hx hb dX12_setEntailed_9 rfl hl (by decide) rfl (fun ls hl => ?_)
  refine lv_aload_n hx hb dX12_setEntailed_10 rfl (lv_at hl 1 rfl) ?_
  refine lv_iload_n hx hb dX12_setEntailed_11 rfl (lv_at hl 2 rfl) ?_
  refine va_put (D := D) (ci := 13) (v := .int b) (ty := .boolean) (C := RX12) (T := TX12) (N := 11) hx hb hts (by decide +kernel) tyX12 tyX12_ok nmX12 hown hC.1 hP hD hS 0 rfl rfl 5 (by decide) (hts (.fieldLink RX12 87 "TriplegarthModel" "isEntailed" "Z") (by decide +kernel)) (fun _ h9 => h9) rfl (by decide +kernel) (by rcases hb01 with rfl | rfl <;> rfl) (by rcases hb01 with rfl | rfl <;> rfl) (Nat.le_of_ble_eq_true rfl) dX12_setEntailed_12 (fun H locs hP hD hS => ?_)
  have hP : va_P D vwCl [(mo, .inr (13, [.int 0, .ref (w 0), .int 0, .ref (w 1), .int 0, .int b, .ref (w 2), .int 0, .ref (w 3), .ref (w 4), .int 0])), ((w 0), .inl (k 5, 3, .inr (.inr (.inr (.inr (fun i => some (w (5 + i)))))))), ((w 5), .inl (k 0, 768, .inl (fun _ => 0))), ((w 6), .inl (k 0, 768, .inl (fun _ => 0))), ((w 7), .inl (k 0, 768, .inl (fun _ => 0))), ((w 1), .inl (k 6, 8, .inr (.inr (.inr (.inr (fun _ => none)))))), ((w 2), .inl (k 6, 20, .inr (.inr (.inr (.inr (fun _ => none)))))), ((w 4), .inl (k 6, 6, .inr (.inr (.inr (.inr (fun _ => none))))))] H := hP
  have hD : va_D A [(mo, .inr (13, [.int 0, .ref (w 0), .int 0, .ref (w 1), .int 0, .int b, .ref (w 2), .int 0, .ref (w 3), .ref (w 4), .int 0])), ((w 0), .inl (k 5, 3, .inr (.inr (.inr (.inr (fun i => some (w (5 + i)))))))), ((w 5), .inl (k 0, 768, .inl (fun _ => 0))), ((w 6), .inl (k 0, 768, .inl (fun _ => 0))), ((w 7), .inl (k 0, 768, .inl (fun _ => 0))), ((w 1), .inl (k 6, 8, .inr (.inr (.inr (.inr (fun _ => none)))))), ((w 2), .inl (k 6, 20, .inr (.inr (.inr (.inr (fun _ => none)))))), ((w 4), .inl (k 6, 6, .inr (.inr (.inr (.inr (fun _ => none))))))] := hD
  refine lv_iload_n hx hb dX12_setEntailed_15 rfl (lv_at hl 0 rfl) ?_
  exact W.zret (v := 0) (ty := .boolean) hx hb hr (rfl) (fun t ht hW => ⟨⟨0, [.int 0, .ref (w 0), .int 0, .ref (w 1), .int 0, .int b, .ref (w 2), .int 0, .ref (w 3), .ref (w 4), .int 0], rfl, ⟨rfl, rfl⟩, ⟨by rw [ht]; exact hP.sub [0] rfl, hD.sub [0] (by decide) rfl⟩⟩, hS.F ht⟩) hS.2.2 dX12_setEntailed_16

set_option maxHeartbeats 4000000 in
set_option maxRecDepth 100000 in
theorem k_X12_made (l : Launch) (D : va_G) (k : Nat → ClassId) (e0 : Nat) (sz : Nat) (mo : Nat) (w : Nat → Nat) (a : Nat) (x : vp_A) : Met l yX12_made wsX12_made ({ frames := 0, cells := 0, slots := 0, locals := 0 }) (mPc D k e0 sz [.ref mo, .ref a] [(mo, .inr (13, [.int 0, .ref (w 0), .int 0, .ref (w 1), .int 0, .int 0, .ref (w 2), .int 0, .ref (w 3), .ref (w 4), .int 0])), ((w 2), .inl (k 6, 20, .inr (.inr (.inr (.inr (fun _ => none)))))), (a, .inl (k 2, x))]) (va_Qi (fun r (u : List Value) => u[0]? = some (.int 0) ∧ r = 0) (fun u t => va_P D vwCl [(mo, .inr (13, u))] t.heap ∧ va_D (va_A [(mo, .inr (13, [.int 0, .ref (w 0), .int 0, .ref (w 1), .int 0, .int 0, .ref (w 2), .int 0, .ref (w 3), .ref (w 4), .int 0])), ((w 2), .inl (k 6, 20, .inr (.inr (.inr (.inr (fun _ => none)))))), (a, .inl (k 2, x))] sz) [(mo, .inr (13, u))]) (va_A [(mo, .inr (13, [.int 0, .ref (w 0), .int 0, .ref (w 1), .int 0, .int 0, .ref (w 2), .int 0, .ref (w 3), .ref (w 4), .int 0])), ((w 2), .inl (k 6, 20, .inr (.inr (.inr (.inr (fun _ => none)))))), (a, .inl (k 2, x))] sz)) 0 0 (va_A [(mo, .inr (13, [.int 0, .ref (w 0), .int 0, .ref (w 1), .int 0, .int 0, .ref (w 2), .int 0, .ref (w 3), .ref (w 4), .int 0])), ((w 2), .inl (k 6, 20, .inr (.inr (.inr (.inr (fun _ => none)))))), (a, .inl (k 2, x))] sz) := by
  refine Met.ofW (cc := cX12_made) (maxL := 2) (ret := (some .int)) (by decide) rfl ?_
  intro p e s m args below meth c s₁ B hml hv
  obtain ⟨rfl, rfl, hP, hC, hD0, hHf⟩ := hv
  have hx := B.exec
  have hb := B.bytes
  have hr := B.returns
  have hts := atoms_spec (ws := wsX12_made) B.pre
  have hown : s.vm.findClass RX12 = some m.cls := findClass_of_methodNamed B.named
  have hlocks := B.notSynchronized
  have hD := hD0.self (sz := s.heap.size)
  generalize hAe : va_A [(mo, .inr (13, [.int 0, .ref (w 0), .int 0, .ref (w 1), .int 0, .int 0, .ref (w 2), .int 0, .ref (w 3), .ref (w 4), .int 0])), ((w 2), .inl (k 6, 20, .inr (.inr (.inr (.inr (fun _ => none)))))), (a, .inl (k 2, x))] s.heap.size = A at hD hHf ⊢
  have hA : ∀ q : Nat, s.heap.size ≤ q → A q := fun q h => by rw [← hAe]; exact Or.inr h
  have hS : va_S A s.heap s.heap [] := va_S.rf
  refine w_entry (Nat.le_of_ble_eq_true rfl) (fun ls hl => ?_)
  have hl : lv_has ls 2 [(0, .ref mo), (1, .ref a)] := hl
  refine lv_aload_n hx hb dX12_made_0 rfl (lv_at hl 0 rfl) ?_
  refine va_get (D := D) (ci := 13) (v := .ref (w 2)) (C := RX12) (T := TX12) (N := 11) hx hb hts (by decide +kernel) hown hC.1 hP 0 rfl rfl 6 (by decide) (hts (.fieldLink RX12 20 "TriplegarthModel" "queries" "[[I") (by decide +kernel)) (fun _ h9 => h9) rfl dX12_made_1 ?_
  refine lv_aload_n hx hb dX12_made_4 rfl (lv_at hl 0 rfl) ?_
  refine va_get (D := D) (ci := 13) (v := .int 0) (C := RX12) (T := TX12) (N := 11) hx hb hts (by decide +kernel) hown hC.1 hP 0 rfl rfl 7 (by decide) (hts (.fieldLink RX12 91 "TriplegarthModel" "queryMany" "I") (by decide +kernel)) (fun _ h9 => h9) rfl dX12_made_5 ?_
  refine lv_aload_n hx hb dX12_made_8 rfl (lv_at hl 1 rfl) ?_
  refine w_astII hx hb hC.2.2.1.2.2.2.1 hC.1 hP hD hS 1 2 rfl rfl (vp_in_nI (n := 0) (N := 20) (by decide) (by decide)) dX12_made_9 (fun H locs hP hD hS => ?_)
  have hP : va_P D vwCl [(mo, .inr (13, [.int 0, .ref (w 0), .int 0, .ref (w 1), .int 0, .int 0, .ref (w 2), .int 0, .ref (w 3), .ref (w 4), .int 0])), ((w 2), .inl (k 6, 20, .inr (.inr (.inr (.inr (va_up (fun _ => none) (0 : Int32).toNatClampNeg (some a))))))), (a, .inl (k 2, x))] H := hP
  have hD : va_D A [(mo, .inr (13, [.int 0, .ref (w 0), .int 0, .ref (w 1), .int 0, .int 0, .ref (w 2), .int 0, .ref (w 3), .ref (w 4), .int 0])), ((w 2), .inl (k 6, 20, .inr (.inr (.inr (.inr (va_up (fun _ => none) (0 : Int32).toNatClampNeg (some a))))))), (a, .inl (k 2, x))] := hD
  refine lv_aload_n hx hb dX12_made_10 rfl (lv_at hl 0 rfl) ?_
  refine lv_dup hx hb dX12_made_11 rfl ?_
  refine va_get (D := D) (ci := 13) (v := .int 0) (C := RX12) (T := TX12) (N := 11) hx hb hts (by decide +kernel) hown hC.1 hP 0 rfl rfl 7 (by decide) (hts (.fieldLink RX12 91 "TriplegarthModel" "queryMany" "I") (by decide +kernel)) (fun _ h9 => h9) rfl dX12_made_12 ?_
  refine lv_iconst (v := 1) hx hb dX12_made_15 (by decide) ?_
  refine lv_iadd hx hb dX12_made_16 ?_
  refine w_top (y := 1) (by decide) ?_
  refine va_put (D := D) (ci := 13) (v := .int 1) (ty := .int) (C := RX12) (T := TX12) (N := 11) hx hb hts (by decide +kernel) tyX12 tyX12_ok nmX12 hown hC.1 hP hD hS 0 rfl rfl 7 (by decide) (hts (.fieldLink RX12 91 "TriplegarthModel" "queryMany" "I") (by decide +kernel)) (fun _ h9 => h9) rfl (by decide +kernel) rfl rfl (Nat.le_of_ble_eq_true rfl) dX12_made_17 (fun H locs hP hD hS => ?_)
  have hP : va_P D vwCl [(mo, .inr (13, [.int 0, .ref (w 0), .int 0, .ref (w 1), .int 0, .int 0, .ref (w 2), .int 1, .ref (w 3), .ref (w 4), .int 0])), ((w 2), .inl (k 6, 20, .inr (.inr (.inr (.inr (va_up (fun _ => none) (0 : Int32).toNatClampNeg (some a))))))), (a, .inl (k 2, x))] H := hP
  have hD : va_D A [(mo, .inr (13, [.int 0, .ref (w 0), .int 0, .ref (w 1), .int 0, .int 0, .ref (w 2), .int 1, .ref (w 3), .ref (w 4), .int 0])), ((w 2), .inl (k 6, 20, .inr (.inr (.inr (.inr (va_up (fun _ => none) (0 : Int32).toNatClampNeg (some a))))))), (a, .inl (k 2, x))] := hD
  refine lv_aload_n hx hb dX12_made_20 rfl (lv_at hl 0 rfl) ?_
  refine va_get (D := D) (ci := 13) (v := .int 1) (C := RX12) (T := TX12) (N := 11) hx hb hts (by decide +kernel) hown hC.1 hP 0 rfl rfl 7 (by decide) (hts (.fieldLink RX12 91 "TriplegarthModel" "queryMany" "I") (by decide +kernel)) (fun _ h9 => h9) rfl dX12_made_21 ?_
  refine lv_iconst (v := 1) hx hb dX12_made_24 (by decide) ?_
  refine lv_isub hx hb dX12_made_25 ?_
  refine w_top (y := 0) (by decide) ?_
  exact W.iret (v := 0) hx hb hr (fun t ht hW => ⟨⟨0, [.int 0, .ref (w 0), .int 0, .ref (w 1), .int 0, .int 0, .ref (w 2), .int 1, .ref (w 3), .ref (w 4), .int 0], rfl, ⟨rfl, rfl⟩, ⟨by rw [ht]; exact hP.sub [0] rfl, hD.sub [0] (by decide) rfl⟩⟩, hS.F ht⟩) hS.2.2 dX12_made_26

set_option maxHeartbeats 4000000 in
set_option maxRecDepth 100000 in
theorem k_X12_pattern (l : Launch) (D : va_G) (k : Nat → ClassId) (e0 : Nat) (sz : Nat) (mo : Nat) (w : Nat → Nat) (g x y z : Int32) : Met l yX12_pattern wsX12_pattern ({ frames := 2, cells := 1, slots := 5, locals := 42 }) (mPc D k e0 sz [.ref mo, .int g, .int x, .int y, .int z] [(mo, .inr (13, [.int 0, .ref (w 0), .int 0, .ref (w 1), .int 0, .int 0, .ref (w 2), .int 0, .ref (w 3), .ref (w 4), .int 0])), ((w 0), .inl (k 5, 3, .inr (.inr (.inr (.inr (fun i => some (w (5 + i)))))))), ((w 5), .inl (k 0, 768, .inl (fun _ => 0))), ((w 6), .inl (k 0, 768, .inl (fun _ => 0))), ((w 7), .inl (k 0, 768, .inl (fun _ => 0))), ((w 1), .inl (k 6, 8, .inr (.inr (.inr (.inr (fun _ => none)))))), ((w 2), .inl (k 6, 20, .inr (.inr (.inr (.inr (fun _ => none)))))), ((w 4), .inl (k 6, 6, .inr (.inr (.inr (.inr (fun _ => none))))))]) (va_Qi (fun r (u : List Value) => (((0 ≤ g.toInt ∧ g.toInt < 4) ∧ ((0 ≤ x.toInt ∧ x.toInt < 12) ∨ (20 ≤ x.toInt ∧ x.toInt < 23)) ∧ ((0 ≤ y.toInt ∧ y.toInt < 12) ∨ (20 ≤ y.toInt ∧ y.toInt < 23)) ∧ ((0 ≤ z.toInt ∧ z.toInt < 12) ∨ (20 ≤ z.toInt ∧ z.toInt < 23))) ∧ u[0]? = some (.int 0) ∧ r = 0) ∨ (¬ ((0 ≤ g.toInt ∧ g.toInt < 4) ∧ ((0 ≤ x.toInt ∧ x.toInt < 12) ∨ (20 ≤ x.toInt ∧ x.toInt < 23)) ∧ ((0 ≤ y.toInt ∧ y.toInt < 12) ∨ (20 ≤ y.toInt ∧ y.toInt < 23)) ∧ ((0 ≤ z.toInt ∧ z.toInt < 12) ∨ (20 ≤ z.toInt ∧ z.toInt < 23))) ∧ u[0]? = some (.int 1))) (fun u t => va_P D vwCl [(mo, .inr (13, u))] t.heap ∧ va_D (va_A [(mo, .inr (13, [.int 0, .ref (w 0), .int 0, .ref (w 1), .int 0, .int 0, .ref (w 2), .int 0, .ref (w 3), .ref (w 4), .int 0])), ((w 0), .inl (k 5, 3, .inr (.inr (.inr (.inr (fun i => some (w (5 + i)))))))), ((w 5), .inl (k 0, 768, .inl (fun _ => 0))), ((w 6), .inl (k 0, 768, .inl (fun _ => 0))), ((w 7), .inl (k 0, 768, .inl (fun _ => 0))), ((w 1), .inl (k 6, 8, .inr (.inr (.inr (.inr (fun _ => none)))))), ((w 2), .inl (k 6, 20, .inr (.inr (.inr (.inr (fun _ => none)))))), ((w 4), .inl (k 6, 6, .inr (.inr (.inr (.inr (fun _ => none))))))] sz) [(mo, .inr (13, u))]) (va_A [(mo, .inr (13, [.int 0, .ref (w 0), .int 0, .ref (w 1), .int 0, .int 0, .ref (w 2), .int 0, .ref (w 3), .ref (w 4), .int 0])), ((w 0), .inl (k 5, 3, .inr (.inr (.inr (.inr (fun i => some (w (5 + i)))))))), ((w 5), .inl (k 0, 768, .inl (fun _ => 0))), ((w 6), .inl (k 0, 768, .inl (fun _ => 0))), ((w 7), .inl (k 0, 768, .inl (fun _ => 0))), ((w 1), .inl (k 6, 8, .inr (.inr (.inr (.inr (fun _ => none)))))), ((w 2), .inl (k 6, 20, .inr (.inr (.inr (.inr (fun _ => none)))))), ((w 4), .inl (k 6, 6, .inr (.inr (.inr (.inr (fun _ => none))))))] sz)) 1 5 (va_A [(mo, .inr (13, [.int 0, .ref (w 0), .int 0, .ref (w 1), .int 0, .int 0, .ref (w 2), .int 0, .ref (w 3), .ref (w 4), .int 0])), ((w 0), .inl (k 5, 3, .inr (.inr (.inr (.inr (fun i => some (w (5 + i)))))))), ((w 5), .inl (k 0, 768, .inl (fun _ => 0))), ((w 6), .inl (k 0, 768, .inl (fun _ => 0))), ((w 7), .inl (k 0, 768, .inl (fun _ => 0))), ((w 1), .inl (k 6, 8, .inr (.inr (.inr (.inr (fun _ => none)))))), ((w 2), .inl (k 6, 20, .inr (.inr (.inr (.inr (fun _ => none)))))), ((w 4), .inl (k 6, 6, .inr (.inr (.inr (.inr (fun _ => none))))))] sz) := by
  refine Met.ofW (cc := cX12_pattern) (maxL := 6) (ret := (some .int)) (by decide) rfl ?_
  intro p e s m args below meth c s₁ B hml hv
  obtain ⟨rfl, rfl, hP, hC, hD0, hHf⟩ := hv
  have hx := B.exec
  have hb := B.bytes
  have hr := B.returns
  have hts := atoms_spec (ws := wsX12_pattern) B.pre
  have hown : s.vm.findClass RX12 = some m.cls := findClass_of_methodNamed B.named
  have hlocks := B.notSynchronized
  have hD := hD0.self (sz := s.heap.size)
  generalize hAe : va_A [(mo, .inr (13, [.int 0, .ref (w 0), .int 0, .ref (w 1), .int 0, .int 0, .ref (w 2), .int 0, .ref (w 3), .ref (w 4), .int 0])), ((w 0), .inl (k 5, 3, .inr (.inr (.inr (.inr (fun i => some (w (5 + i)))))))), ((w 5), .inl (k 0, 768, .inl (fun _ => 0))), ((w 6), .inl (k 0, 768, .inl (fun _ => 0))), ((w 7), .inl (k 0, 768, .inl (fun _ => 0))), ((w 1), .inl (k 6, 8, .inr (.inr (.inr (.inr (fun _ => none)))))), ((w 2), .inl (k 6, 20, .inr (.inr (.inr (.inr (fun _ => none)))))), ((w 4), .inl (k 6, 6, .inr (.inr (.inr (.inr (fun _ => none))))))] s.heap.size = A at hD hHf ⊢
  have hA : ∀ q : Nat, s.heap.size ≤ q → A q := fun q h => by rw [← hAe]; exact Or.inr h
  have hS : va_S A s.heap s.heap [] := va_S.rf
  refine w_entry (Nat.le_of_ble_eq_true rfl) (fun ls hl => ?_)
  have hl : lv_has ls 6 [(0, .ref mo), (1, .int g), (2, .int x), (3, .int y), (4, .int z)] := hl
  refine lv_iload_n hx hb dX12_pattern_0 rfl (lv_at hl 1 rfl) ?_
  refine lv_iconst (v := 0) hx hb dX12_pattern_1 (by decide) ?_
  refine lv_iconst (v := 3) hx hb dX12_pattern_2 (by decide) ?_
  refine pz_i (va_runS (As := [.int g, .int 0, .int 3]) (rest := []) ⟨hx, hb, hml, hown, hts⟩ (k_X12_in l D k s.heap g 0 3) (va_cwS 3 hts gX12_pattern_X12_in rfl rfl rfl (by decide +kernel) ⟨Nat.le_of_ble_eq_true rfl, Nat.le_of_ble_eq_true rfl⟩) ⟨pPc_fb, pPc_go hC⟩ rfl rfl hl.1 rfl (lv_room (Nat.le_of_ble_eq_true rfl)) dX12_pattern_3 ⟨Nat.le_of_ble_eq_true rfl, Nat.le_of_ble_eq_true rfl⟩) hS (fun r1 locs hw_r1 hS => ?_)
  have hw_r1 : r1 = bi (0 ≤ g.toInt ∧ g.toInt ≤ 3) := hw_r1
  refine lv_if_eq (tgt := 35) hx hb dX12_pattern_6 (by decide) (fun c_6 => ?_) (fun c_6 => ?_)
  · have f_6 := bi_z hw_r1 c_6
    refine lv_iconst (v := 0) hx hb dX12_pattern_35 (by decide) ?_
    refine lv_istore (lv' := [(5, .int 0), (0, .ref mo), (1, .int g), (2, .int x), (3, .int y), (4, .int z)]) hx hb dX12_pattern_36 hl (by decide) rfl (fun ls hl => ?_)
    refine lv_aload_n hx hb dX12_pattern_38 rfl (lv_at hl 1 rfl) ?_
    refine lv_iload hx hb dX12_pattern_39 (lv_at hl 0 rfl) ?_
    refine lv_if_ne (tgt := 48) hx hb dX12_pattern_41 (by decide) (fun c_41 => absurd c_41 (by decide)) (fun c_41 => ?_)
    refine lv_iconst (v := 1) hx hb dX12_pattern_44 (by decide) ?_
    refine lv_goto (tgt := 62) hx hb dX12_pattern_45 (by decide) ?_
    have hPc := hP.sub (ws' := [(mo, .inr (13, [.int 0, .ref (w 0), .int 0, .ref (w 1), .int 0, .int 0, .ref (w 2), .int 0, .ref (w 3), .ref (w 4), .int 0]))]) [0] rfl
    have hDc := hD.sub (ws' := [(mo, .inr (13, [.int 0, .ref (w 0), .int 0, .ref (w 1), .int 0, .int 0, .ref (w 2), .int 0, .ref (w 3), .ref (w 4), .int 0]))]) [0] (by decide) rfl
    have hFc := va_free (wc := [(mo, .inr (13, [.int 0, .ref (w 0), .int 0, .ref (w 1), .int 0, .int 0, .ref (w 2), .int 0, .ref (w 3), .ref (w 4), .int 0]))]) hD hS hA [0] rfl
    refine va_calli (va_runV (As := [.int 1]) (rest := []) ⟨hx, hb, hml, hown, hts⟩ (k_X12_fails l D k e0 s.heap.size mo w 0 1) (cwV 1 hts gX12_pattern_X12_fails rfl rfl rfl (by decide +kernel) ⟨Nat.le_of_ble_eq_true rfl, Nat.le_of_ble_eq_true rfl⟩) ⟨mPc_fb, va_recv hC.1 hPc (ci := 13) (q0 := 0) rfl rfl, mPc_go hC hHf hS hPc hDc hFc⟩ rfl rfl hl.1 rfl (lv_room (Nat.le_of_ble_eq_true rfl)) dX12_pattern_62 ⟨Nat.le_of_ble_eq_true rfl, Nat.le_of_ble_eq_true rfl⟩) hS (fun q9 _ h9 => hFc q9 h9) hFc (fun r3 u2 t H locs ht hvm hw_r3 hB hz1 hk1 hS => ?_)
    obtain ⟨hP1, hD1⟩ := hB
    rw [ht] at hP1
    obtain ⟨hP, hD⟩ := va_join (wr := [((w 0), .inl (k 5, 3, .inr (.inr (.inr (.inr (fun i => some (w (5 + i)))))))), ((w 5), .inl (k 0, 768, .inl (fun _ => 0))), ((w 6), .inl (k 0, 768, .inl (fun _ => 0))), ((w 7), .inl (k 0, 768, .inl (fun _ => 0))), ((w 1), .inl (k 6, 8, .inr (.inr (.inr (.inr (fun _ => none)))))), ((w 2), .inl (k 6, 20, .inr (.inr (.inr (.inr (fun _ => none)))))), ((w 4), .inl (k 6, 6, .inr (.inr (.inr (.inr (fun _ => none))))))]) (w1 := [(mo, .inr (13, [.int 1, .ref (w 0), .int 0, .ref (w 1), .int 0, .int 0, .ref (w 2), .int 0, .ref (w 3), .ref (w 4), .int 0]))]) hP hD [0] [1, 2, 3, 4, 5, 6, 7] rfl rfl (by decide) (by decide) hk1 hFc hP1 hD1
    have hP : va_P D vwCl [((w 0), .inl (k 5, 3, .inr (.inr (.inr (.inr (fun i => some (w (5 + i)))))))), ((w 5), .inl (k 0, 768, .inl (fun _ => 0))), ((w 6), .inl (k 0, 768, .inl (fun _ => 0))), ((w 7), .inl (k 0, 768, .inl (fun _ => 0))), ((w 1), .inl (k 6, 8, .inr (.inr (.inr (.inr (fun _ => none)))))), ((w 2), .inl (k 6, 20, .inr (.inr (.inr (.inr (fun _ => none)))))), ((w 4), .inl (k 6, 6, .inr (.inr (.inr (.inr (fun _ => none)))))), (mo, .inr (13, [.int 1, .ref (w 0), .int 0, .ref (w 1), .int 0, .int 0, .ref (w 2), .int 0, .ref (w 3), .ref (w 4), .int 0]))] H := hP
    have hD : va_D A [((w 0), .inl (k 5, 3, .inr (.inr (.inr (.inr (fun i => some (w (5 + i)))))))), ((w 5), .inl (k 0, 768, .inl (fun _ => 0))), ((w 6), .inl (k 0, 768, .inl (fun _ => 0))), ((w 7), .inl (k 0, 768, .inl (fun _ => 0))), ((w 1), .inl (k 6, 8, .inr (.inr (.inr (.inr (fun _ => none)))))), ((w 2), .inl (k 6, 20, .inr (.inr (.inr (.inr (fun _ => none)))))), ((w 4), .inl (k 6, 6, .inr (.inr (.inr (.inr (fun _ => none)))))), (mo, .inr (13, [.int 1, .ref (w 0), .int 0, .ref (w 1), .int 0, .int 0, .ref (w 2), .int 0, .ref (w 3), .ref (w 4), .int 0]))] := hD
    have e_r3 : r3 = 1 := hw_r3.trans (by decide)
    subst e_r3
    refine lv_if_eq (tgt := 72) hx hb dX12_pattern_65 (by decide) (fun c_65 => absurd c_65 (by decide)) (fun c_65 => ?_)
    refine lv_iconst (v := 0) hx hb dX12_pattern_68 (by decide) ?_
    refine lv_goto (tgt := 101) hx hb dX12_pattern_69 (by decide) ?_
    refine W.widen (k := 1) (n := 5) (Nat.le_of_ble_eq_true rfl) (Nat.le_of_ble_eq_true rfl) ?_
    exact W.iret (v := 0) hx hb hr (fun t ht hW => ⟨⟨0, [.int 1, .ref (w 0), .int 0, .ref (w 1), .int 0, .int 0, .ref (w 2), .int 0, .ref (w 3), .ref (w 4), .int 0], rfl, Or.inr ⟨by omega, rfl⟩, ⟨by rw [ht]; exact hP.sub [7] rfl, hD.sub [7] (by decide) rfl⟩⟩, hS.F ht⟩) hS.2.2 dX12_pattern_101
  · have f_6 := bi_n hw_r1 c_6
    refine lv_iload_n hx hb dX12_pattern_9 rfl (lv_at hl 2 rfl) ?_
    refine pz_i (va_runS (As := [.int x]) (rest := []) ⟨hx, hb, hml, hown, hts⟩ (k_X12_isPlace l D k s.heap x) (va_cwS 1 hts gX12_pattern_X12_isPlace rfl rfl rfl (by decide +kernel) ⟨Nat.le_of_ble_eq_true rfl, Nat.le_of_ble_eq_true rfl⟩) ⟨pPc_fb, pPc_go hC⟩ rfl rfl hl.1 rfl (lv_room (Nat.le_of_ble_eq_true rfl)) dX12_pattern_10 ⟨Nat.le_of_ble_eq_true rfl, Nat.le_of_ble_eq_true rfl⟩) hS (fun r5 locs hw_r5 hS => ?_)
    refine lv_if_eq (tgt := 35) hx hb dX12_pattern_13 (by decide) (fun c_13 => ?_) (fun c_13 => ?_)
    · have f_13 := bi_z hw_r5 c_13
      refine lv_iconst (v := 0) hx hb dX12_pattern_35 (by decide) ?_
      refine lv_istore (lv' := [(5, .int 0), (0, .ref mo), (1, .int g), (2, .int x), (3, .int y), (4, .int z)]) hx hb dX12_pattern_36 hl (by decide) rfl (fun ls hl => ?_)
      refine lv_aload_n hx hb dX12_pattern_38 rfl (lv_at hl 1 rfl) ?_
      refine lv_iload hx hb dX12_pattern_39 (lv_at hl 0 rfl) ?_
      refine lv_if_ne (tgt := 48) hx hb dX12_pattern_41 (by decide) (fun c_41 => absurd c_41 (by decide)) (fun c_41 => ?_)
      refine lv_iconst (v := 1) hx hb dX12_pattern_44 (by decide) ?_
      refine lv_goto (tgt := 62) hx hb dX12_pattern_45 (by decide) ?_
      have hPc := hP.sub (ws' := [(mo, .inr (13, [.int 0, .ref (w 0), .int 0, .ref (w 1), .int 0, .int 0, .ref (w 2), .int 0, .ref (w 3), .ref (w 4), .int 0]))]) [0] rfl
      have hDc := hD.sub (ws' := [(mo, .inr (13, [.int 0, .ref (w 0), .int 0, .ref (w 1), .int 0, .int 0, .ref (w 2), .int 0, .ref (w 3), .ref (w 4), .int 0]))]) [0] (by decide) rfl
      have hFc := va_free (wc := [(mo, .inr (13, [.int 0, .ref (w 0), .int 0, .ref (w 1), .int 0, .int 0, .ref (w 2), .int 0, .ref (w 3), .ref (w 4), .int 0]))]) hD hS hA [0] rfl
      refine va_calli (va_runV (As := [.int 1]) (rest := []) ⟨hx, hb, hml, hown, hts⟩ (k_X12_fails l D k e0 s.heap.size mo w 0 1) (cwV 1 hts gX12_pattern_X12_fails rfl rfl rfl (by decide +kernel) ⟨Nat.le_of_ble_eq_true rfl, Nat.le_of_ble_eq_true rfl⟩) ⟨mPc_fb, va_recv hC.1 hPc (ci := 13) (q0 := 0) rfl rfl, mPc_go hC hHf hS hPc hDc hFc⟩ rfl rfl hl.1 rfl (lv_room (Nat.le_of_ble_eq_true rfl)) dX12_pattern_62 ⟨Nat.le_of_ble_eq_true rfl, Nat.le_of_ble_eq_true rfl⟩) hS (fun q9 _ h9 => hFc q9 h9) hFc (fun r7 u6 t H locs ht hvm hw_r7 hB hz1 hk1 hS => ?_)
      obtain ⟨hP1, hD1⟩ := hB
      rw [ht] at hP1
      obtain ⟨hP, hD⟩ := va_join (wr := [((w 0), .inl (k 5, 3, .inr (.inr (.inr (.inr (fun i => some (w (5 + i)))))))), ((w 5), .inl (k 0, 768, .inl (fun _ => 0))), ((w 6), .inl (k 0, 768, .inl (fun _ => 0))), ((w 7), .inl (k 0, 768, .inl (fun _ => 0))), ((w 1), .inl (k 6, 8, .inr (.inr (.inr (.inr (fun _ => none)))))), ((w 2), .inl (k 6, 20, .inr (.inr (.inr (.inr (fun _ => none)))))), ((w 4), .inl (k 6, 6, .inr (.inr (.inr (.inr (fun _ => none))))))]) (w1 := [(mo, .inr (13, [.int 1, .ref (w 0), .int 0, .ref (w 1), .int 0, .int 0, .ref (w 2), .int 0, .ref (w 3), .ref (w 4), .int 0]))]) hP hD [0] [1, 2, 3, 4, 5, 6, 7] rfl rfl (by decide) (by decide) hk1 hFc hP1 hD1
      have hP : va_P D vwCl [((w 0), .inl (k 5, 3, .inr (.inr (.inr (.inr (fun i => some (w (5 + i)))))))), ((w 5), .inl (k 0, 768, .inl (fun _ => 0))), ((w 6), .inl (k 0, 768, .inl (fun _ => 0))), ((w 7), .inl (k 0, 768, .inl (fun _ => 0))), ((w 1), .inl (k 6, 8, .inr (.inr (.inr (.inr (fun _ => none)))))), ((w 2), .inl (k 6, 20, .inr (.inr (.inr (.inr (fun _ => none)))))), ((w 4), .inl (k 6, 6, .inr (.inr (.inr (.inr (fun _ => none)))))), (mo, .inr (13, [.int 1, .ref (w 0), .int 0, .ref (w 1), .int 0, .int 0, .ref (w 2), .int 0, .ref (w 3), .ref (w 4), .int 0]))] H := hP
      have hD : va_D A [((w 0), .inl (k 5, 3, .inr (.inr (.inr (.inr (fun i => some (w (5 + i)))))))), ((w 5), .inl (k 0, 768, .inl (fun _ => 0))), ((w 6), .inl (k 0, 768, .inl (fun _ => 0))), ((w 7), .inl (k 0, 768, .inl (fun _ => 0))), ((w 1), .inl (k 6, 8, .inr (.inr (.inr (.inr (fun _ => none)))))), ((w 2), .inl (k 6, 20, .inr (.inr (.inr (.inr (fun _ => none)))))), ((w 4), .inl (k 6, 6, .inr (.inr (.inr (.inr (fun _ => none)))))), (mo, .inr (13, [.int 1, .ref (w 0), .int 0, .ref (w 1), .int 0, .int 0, .ref (w 2), .int 0, .ref (w 3), .ref (w 4), .int 0]))] := hD
      have e_r7 : r7 = 1 := hw_r7.trans (by decide)
      subst e_r7
      refine lv_if_eq (tgt := 72) hx hb dX12_pattern_65 (by decide) (fun c_65 => absurd c_65 (by decide)) (fun c_65 => ?_)
      refine lv_iconst (v := 0) hx hb dX12_pattern_68 (by decide) ?_
      refine lv_goto (tgt := 101) hx hb dX12_pattern_69 (by decide) ?_
      refine W.widen (k := 1) (n := 5) (Nat.le_of_ble_eq_true rfl) (Nat.le_of_ble_eq_true rfl) ?_
      exact W.iret (v := 0) hx hb hr (fun t ht hW => ⟨⟨0, [.int 1, .ref (w 0), .int 0, .ref (w 1), .int 0, .int 0, .ref (w 2), .int 0, .ref (w 3), .ref (w 4), .int 0], rfl, Or.inr ⟨by omega, rfl⟩, ⟨by rw [ht]; exact hP.sub [7] rfl, hD.sub [7] (by decide) rfl⟩⟩, hS.F ht⟩) hS.2.2 dX12_pattern_101
    · have f_13 := bi_n hw_r5 c_13
      refine lv_iload_n hx hb dX12_pattern_16 rfl (lv_at hl 3 rfl) ?_
      refine pz_i (va_runS (As := [.int y]) (rest := []) ⟨hx, hb, hml, hown, hts⟩ (k_X12_isPlace l D k s.heap y) (va_cwS 1 hts gX12_pattern_X12_isPlace rfl rfl rfl (by decide +kernel) ⟨Nat.le_of_ble_eq_true rfl, Nat.le_of_ble_eq_true rfl⟩) ⟨pPc_fb, pPc_go hC⟩ rfl rfl hl.1 rfl (lv_room (Nat.le_of_ble_eq_true rfl)) dX12_pattern_17 ⟨Nat.le_of_ble_eq_true rfl, Nat.le_of_ble_eq_true rfl⟩) hS (fun r9 locs hw_r9 hS => ?_)
      refine lv_if_eq (tgt := 35) hx hb dX12_pattern_20 (by decide) (fun c_20 => ?_) (fun c_20 => ?_)
      · have f_20 := bi_z hw_r9 c_20
        refine lv_iconst (v := 0) hx hb dX12_pattern_35 (by decide) ?_
        refine lv_istore (lv' := [(5, .int 0), (0, .ref mo), (1, .int g), (2, .int x), (3, .int y), (4, .int z)]) hx hb dX12_pattern_36 hl (by decide) rfl (fun ls hl => ?_)
        refine lv_aload_n hx hb dX12_pattern_38 rfl (lv_at hl 1 rfl) ?_
        refine lv_iload hx hb dX12_pattern_39 (lv_at hl 0 rfl) ?_
        refine lv_if_ne (tgt := 48) hx hb dX12_pattern_41 (by decide) (fun c_41 => absurd c_41 (by decide)) (fun c_41 => ?_)
        refine lv_iconst (v := 1) hx hb dX12_pattern_44 (by decide) ?_
        refine lv_goto (tgt := 62) hx hb dX12_pattern_45 (by decide) ?_
        have hPc := hP.sub (ws' := [(mo, .inr (13, [.int 0, .ref (w 0), .int 0, .ref (w 1), .int 0, .int 0, .ref (w 2), .int 0, .ref (w 3), .ref (w 4), .int 0]))]) [0] rfl
        have hDc := hD.sub (ws' := [(mo, .inr (13, [.int 0, .ref (w 0), .int 0, .ref (w 1), .int 0, .int 0, .ref (w 2), .int 0, .ref (w 3), .ref (w 4), .int 0]))]) [0] (by decide) rfl
        have hFc := va_free (wc := [(mo, .inr (13, [.int 0, .ref (w 0), .int 0, .ref (w 1), .int 0, .int 0, .ref (w 2), .int 0, .ref (w 3), .ref (w 4), .int 0]))]) hD hS hA [0] rfl
        refine va_calli (va_runV (As := [.int 1]) (rest := []) ⟨hx, hb, hml, hown, hts⟩ (k_X12_fails l D k e0 s.heap.size mo w 0 1) (cwV 1 hts gX12_pattern_X12_fails rfl rfl rfl (by decide +kernel) ⟨Nat.le_of_ble_eq_true rfl, Nat.le_of_ble_eq_true rfl⟩) ⟨mPc_fb, va_recv hC.1 hPc (ci := 13) (q0 := 0) rfl rfl, mPc_go hC hHf hS hPc hDc hFc⟩ rfl rfl hl.1 rfl (lv_room (Nat.le_of_ble_eq_true rfl)) dX12_pattern_62 ⟨Nat.le_of_ble_eq_true rfl, Nat.le_of_ble_eq_true rfl⟩) hS (fun q9 _ h9 => hFc q9 h9) hFc (fun r11 u10 t H locs ht hvm hw_r11 hB hz1 hk1 hS => ?_)
        obtain ⟨hP1, hD1⟩ := hB
        rw [ht] at hP1
        obtain ⟨hP, hD⟩ := va_join (wr := [((w 0), .inl (k 5, 3, .inr (.inr (.inr (.inr (fun i => some (w (5 + i)))))))), ((w 5), .inl (k 0, 768, .inl (fun _ => 0))), ((w 6), .inl (k 0, 768, .inl (fun _ => 0))), ((w 7), .inl (k 0, 768, .inl (fun _ => 0))), ((w 1), .inl (k 6, 8, .inr (.inr (.inr (.inr (fun _ => none)))))), ((w 2), .inl (k 6, 20, .inr (.inr (.inr (.inr (fun _ => none)))))), ((w 4), .inl (k 6, 6, .inr (.inr (.inr (.inr (fun _ => none))))))]) (w1 := [(mo, .inr (13, [.int 1, .ref (w 0), .int 0, .ref (w 1), .int 0, .int 0, .ref (w 2), .int 0, .ref (w 3), .ref (w 4), .int 0]))]) hP hD [0] [1, 2, 3, 4, 5, 6, 7] rfl rfl (by decide) (by decide) hk1 hFc hP1 hD1
        have hP : va_P D vwCl [((w 0), .inl (k 5, 3, .inr (.inr (.inr (.inr (fun i => some (w (5 + i)))))))), ((w 5), .inl (k 0, 768, .inl (fun _ => 0))), ((w 6), .inl (k 0, 768, .inl (fun _ => 0))), ((w 7), .inl (k 0, 768, .inl (fun _ => 0))), ((w 1), .inl (k 6, 8, .inr (.inr (.inr (.inr (fun _ => none)))))), ((w 2), .inl (k 6, 20, .inr (.inr (.inr (.inr (fun _ => none)))))), ((w 4), .inl (k 6, 6, .inr (.inr (.inr (.inr (fun _ => none)))))), (mo, .inr (13, [.int 1, .ref (w 0), .int 0, .ref (w 1), .int 0, .int 0, .ref (w 2), .int 0, .ref (w 3), .ref (w 4), .int 0]))] H := hP
        have hD : va_D A [((w 0), .inl (k 5, 3, .inr (.inr (.inr (.inr (fun i => some (w (5 + i)))))))), ((w 5), .inl (k 0, 768, .inl (fun _ => 0))), ((w 6), .inl (k 0, 768, .inl (fun _ => 0))), ((w 7), .inl (k 0, 768, .inl (fun _ => 0))), ((w 1), .inl (k 6, 8, .inr (.inr (.inr (.inr (fun _ => none)))))), ((w 2), .inl (k 6, 20, .inr (.inr (.inr (.inr (fun _ => none)))))), ((w 4), .inl (k 6, 6, .inr (.inr (.inr (.inr (fun _ => none)))))), (mo, .inr (13, [.int 1, .ref (w 0), .int 0, .ref (w 1), .int 0, .int 0, .ref (w 2), .int 0, .ref (w 3), .ref (w 4), .int 0]))] := hD
        have e_r11 : r11 = 1 := hw_r11.trans (by decide)
        subst e_r11
        refine lv_if_eq (tgt := 72) hx hb dX12_pattern_65 (by decide) (fun c_65 => absurd c_65 (by decide)) (fun c_65 => ?_)
        refine lv_iconst (v := 0) hx hb dX12_pattern_68 (by decide) ?_
        refine lv_goto (tgt := 101) hx hb dX12_pattern_69 (by decide) ?_
        refine W.widen (k := 1) (n := 5) (Nat.le_of_ble_eq_true rfl) (Nat.le_of_ble_eq_true rfl) ?_
        exact W.iret (v := 0) hx hb hr (fun t ht hW => ⟨⟨0, [.int 1, .ref (w 0), .int 0, .ref (w 1), .int 0, .int 0, .ref (w 2), .int 0, .ref (w 3), .ref (w 4), .int 0], rfl, Or.inr ⟨by omega, rfl⟩, ⟨by rw [ht]; exact hP.sub [7] rfl, hD.sub [7] (by decide) rfl⟩⟩, hS.F ht⟩) hS.2.2 dX12_pattern_101
      · have f_20 := bi_n hw_r9 c_20
        refine lv_iload hx hb dX12_pattern_23 (lv_at hl 4 rfl) ?_
        refine pz_i (va_runS (As := [.int z]) (rest := []) ⟨hx, hb, hml, hown, hts⟩ (k_X12_isPlace l D k s.heap z) (va_cwS 1 hts gX12_pattern_X12_isPlace rfl rfl rfl (by decide +kernel) ⟨Nat.le_of_ble_eq_true rfl, Nat.le_of_ble_eq_true rfl⟩) ⟨pPc_fb, pPc_go hC⟩ rfl rfl hl.1 rfl (lv_room (Nat.le_of_ble_eq_true rfl)) dX12_pattern_25 ⟨Nat.le_of_ble_eq_true rfl, Nat.le_of_ble_eq_true rfl⟩) hS (fun r13 locs hw_r13 hS => ?_)
        refine lv_if_eq (tgt := 35) hx hb dX12_pattern_28 (by decide) (fun c_28 => ?_) (fun c_28 => ?_)
        · have f_28 := bi_z hw_r13 c_28
          refine lv_iconst (v := 0) hx hb dX12_pattern_35 (by decide) ?_
          refine lv_istore (lv' := [(5, .int 0), (0, .ref mo), (1, .int g), (2, .int x), (3, .int y), (4, .int z)]) hx hb dX12_pattern_36 hl (by decide) rfl (fun ls hl => ?_)
          refine lv_aload_n hx hb dX12_pattern_38 rfl (lv_at hl 1 rfl) ?_
          refine lv_iload hx hb dX12_pattern_39 (lv_at hl 0 rfl) ?_
          refine lv_if_ne (tgt := 48) hx hb dX12_pattern_41 (by decide) (fun c_41 => absurd c_41 (by decide)) (fun c_41 => ?_)
          refine lv_iconst (v := 1) hx hb dX12_pattern_44 (by decide) ?_
          refine lv_goto (tgt := 62) hx hb dX12_pattern_45 (by decide) ?_
          have hPc := hP.sub (ws' := [(mo, .inr (13, [.int 0, .ref (w 0), .int 0, .ref (w 1), .int 0, .int 0, .ref (w 2), .int 0, .ref (w 3), .ref (w 4), .int 0]))]) [0] rfl
          have hDc := hD.sub (ws' := [(mo, .inr (13, [.int 0, .ref (w 0), .int 0, .ref (w 1), .int 0, .int 0, .ref (w 2), .int 0, .ref (w 3), .ref (w 4), .int 0]))]) [0] (by decide) rfl
          have hFc := va_free (wc := [(mo, .inr (13, [.int 0, .ref (w 0), .int 0, .ref (w 1), .int 0, .int 0, .ref (w 2), .int 0, .ref (w 3), .ref (w 4), .int 0]))]) hD hS hA [0] rfl
          refine va_calli (va_runV (As := [.int 1]) (rest := []) ⟨hx, hb, hml, hown, hts⟩ (k_X12_fails l D k e0 s.heap.size mo w 0 1) (cwV 1 hts gX12_pattern_X12_fails rfl rfl rfl (by decide +kernel) ⟨Nat.le_of_ble_eq_true rfl, Nat.le_of_ble_eq_true rfl⟩) ⟨mPc_fb, va_recv hC.1 hPc (ci := 13) (q0 := 0) rfl rfl, mPc_go hC hHf hS hPc hDc hFc⟩ rfl rfl hl.1 rfl (lv_room (Nat.le_of_ble_eq_true rfl)) dX12_pattern_62 ⟨Nat.le_of_ble_eq_true rfl, Nat.le_of_ble_eq_true rfl⟩) hS (fun q9 _ h9 => hFc q9 h9) hFc (fun r15 u14 t H locs ht hvm hw_r15 hB hz1 hk1 hS => ?_)
          obtain ⟨hP1, hD1⟩ := hB
          rw [ht] at hP1
          obtain ⟨hP, hD⟩ := va_join (wr := [((w 0), .inl (k 5, 3, .inr (.inr (.inr (.inr (fun i => some (w (5 + i)))))))), ((w 5), .inl (k 0, 768, .inl (fun _ => 0))), ((w 6), .inl (k 0, 768, .inl (fun _ => 0))), ((w 7), .inl (k 0, 768, .inl (fun _ => 0))), ((w 1), .inl (k 6, 8, .inr (.inr (.inr (.inr (fun _ => none)))))), ((w 2), .inl (k 6, 20, .inr (.inr (.inr (.inr (fun _ => none)))))), ((w 4), .inl (k 6, 6, .inr (.inr (.inr (.inr (fun _ => none))))))]) (w1 := [(mo, .inr (13, [.int 1, .ref (w 0), .int 0, .ref (w 1), .int 0, .int 0, .ref (w 2), .int 0, .ref (w 3), .ref (w 4), .int 0]))]) hP hD [0] [1, 2, 3, 4, 5, 6, 7] rfl rfl (by decide) (by decide) hk1 hFc hP1 hD1
          have hP : va_P D vwCl [((w 0), .inl (k 5, 3, .inr (.inr (.inr (.inr (fun i => some (w (5 + i)))))))), ((w 5), .inl (k 0, 768, .inl (fun _ => 0))), ((w 6), .inl (k 0, 768, .inl (fun _ => 0))), ((w 7), .inl (k 0, 768, .inl (fun _ => 0))), ((w 1), .inl (k 6, 8, .inr (.inr (.inr (.inr (fun _ => none)))))), ((w 2), .inl (k 6, 20, .inr (.inr (.inr (.inr (fun _ => none)))))), ((w 4), .inl (k 6, 6, .inr (.inr (.inr (.inr (fun _ => none)))))), (mo, .inr (13, [.int 1, .ref (w 0), .int 0, .ref (w 1), .int 0, .int 0, .ref (w 2), .int 0, .ref (w 3), .ref (w 4), .int 0]))] H := hP
          have hD : va_D A [((w 0), .inl (k 5, 3, .inr (.inr (.inr (.inr (fun i => some (w (5 + i)))))))), ((w 5), .inl (k 0, 768, .inl (fun _ => 0))), ((w 6), .inl (k 0, 768, .inl (fun _ => 0))), ((w 7), .inl (k 0, 768, .inl (fun _ => 0))), ((w 1), .inl (k 6, 8, .inr (.inr (.inr (.inr (fun _ => none)))))), ((w 2), .inl (k 6, 20, .inr (.inr (.inr (.inr (fun _ => none)))))), ((w 4), .inl (k 6, 6, .inr (.inr (.inr (.inr (fun _ => none)))))), (mo, .inr (13, [.int 1, .ref (w 0), .int 0, .ref (w 1), .int 0, .int 0, .ref (w 2), .int 0, .ref (w 3), .ref (w 4), .int 0]))] := hD
          have e_r15 : r15 = 1 := hw_r15.trans (by decide)
          subst e_r15
          refine lv_if_eq (tgt := 72) hx hb dX12_pattern_65 (by decide) (fun c_65 => absurd c_65 (by decide)) (fun c_65 => ?_)
          refine lv_iconst (v := 0) hx hb dX12_pattern_68 (by decide) ?_
          refine lv_goto (tgt := 101) hx hb dX12_pattern_69 (by decide) ?_
          refine W.widen (k := 1) (n := 5) (Nat.le_of_ble_eq_true rfl) (Nat.le_of_ble_eq_true rfl) ?_
          exact W.iret (v := 0) hx hb hr (fun t ht hW => ⟨⟨0, [.int 1, .ref (w 0), .int 0, .ref (w 1), .int 0, .int 0, .ref (w 2), .int 0, .ref (w 3), .ref (w 4), .int 0], rfl, Or.inr ⟨by omega, rfl⟩, ⟨by rw [ht]; exact hP.sub [7] rfl, hD.sub [7] (by decide) rfl⟩⟩, hS.F ht⟩) hS.2.2 dX12_pattern_101
        · have f_28 := bi_n hw_r13 c_28
          refine lv_iconst (v := 1) hx hb dX12_pattern_31 (by decide) ?_
          refine lv_goto (tgt := 36) hx hb dX12_pattern_32 (by decide) ?_
          refine lv_istore (lv' := [(5, .int 1), (0, .ref mo), (1, .int g), (2, .int x), (3, .int y), (4, .int z)]) hx hb dX12_pattern_36 hl (by decide) rfl (fun ls hl => ?_)
          refine lv_aload_n hx hb dX12_pattern_38 rfl (lv_at hl 1 rfl) ?_
          refine lv_iload hx hb dX12_pattern_39 (lv_at hl 0 rfl) ?_
          refine lv_if_ne (tgt := 48) hx hb dX12_pattern_41 (by decide) (fun c_41 => ?_) (fun c_41 => absurd c_41 (by decide))
          refine lv_aload_n hx hb dX12_pattern_48 rfl (lv_at hl 1 rfl) ?_
          refine va_get (D := D) (ci := 13) (v := .int 0) (C := RX12) (T := TX12) (N := 11) hx hb hts (by decide +kernel) hown hC.1 hP 0 rfl rfl 7 (by decide) (hts (.fieldLink RX12 91 "TriplegarthModel" "queryMany" "I") (by decide +kernel)) (fun _ h9 => h9) rfl dX12_pattern_49 ?_
          refine lv_bipush (v := 20) hx hb dX12_pattern_52 (by decide) ?_
          refine lv_icmp_ne (tgt := 61) hx hb dX12_pattern_54 (by decide) (fun c_54 => ?_) (fun c_54 => absurd c_54 (by decide))
          refine lv_iconst (v := 0) hx hb dX12_pattern_61 (by decide) ?_
          have hPc := hP.sub (ws' := [(mo, .inr (13, [.int 0, .ref (w 0), .int 0, .ref (w 1), .int 0, .int 0, .ref (w 2), .int 0, .ref (w 3), .ref (w 4), .int 0]))]) [0] rfl
          have hDc := hD.sub (ws' := [(mo, .inr (13, [.int 0, .ref (w 0), .int 0, .ref (w 1), .int 0, .int 0, .ref (w 2), .int 0, .ref (w 3), .ref (w 4), .int 0]))]) [0] (by decide) rfl
          have hFc := va_free (wc := [(mo, .inr (13, [.int 0, .ref (w 0), .int 0, .ref (w 1), .int 0, .int 0, .ref (w 2), .int 0, .ref (w 3), .ref (w 4), .int 0]))]) hD hS hA [0] rfl
          refine va_calli (va_runV (As := [.int 0]) (rest := []) ⟨hx, hb, hml, hown, hts⟩ (k_X12_fails l D k e0 s.heap.size mo w 0 0) (cwV 1 hts gX12_pattern_X12_fails rfl rfl rfl (by decide +kernel) ⟨Nat.le_of_ble_eq_true rfl, Nat.le_of_ble_eq_true rfl⟩) ⟨mPc_fb, va_recv hC.1 hPc (ci := 13) (q0 := 0) rfl rfl, mPc_go hC hHf hS hPc hDc hFc⟩ rfl rfl hl.1 rfl (lv_room (Nat.le_of_ble_eq_true rfl)) dX12_pattern_62 ⟨Nat.le_of_ble_eq_true rfl, Nat.le_of_ble_eq_true rfl⟩) hS (fun q9 _ h9 => hFc q9 h9) hFc (fun r18 u17 t H locs ht hvm hw_r18 hB hz1 hk1 hS => ?_)
          obtain ⟨hP1, hD1⟩ := hB
          rw [ht] at hP1
          obtain ⟨hP, hD⟩ := va_join (wr := [((w 0), .inl (k 5, 3, .inr (.inr (.inr (.inr (fun i => some (w (5 + i)))))))), ((w 5), .inl (k 0, 768, .inl (fun _ => 0))), ((w 6), .inl (k 0, 768, .inl (fun _ => 0))), ((w 7), .inl (k 0, 768, .inl (fun _ => 0))), ((w 1), .inl (k 6, 8, .inr (.inr (.inr (.inr (fun _ => none)))))), ((w 2), .inl (k 6, 20, .inr (.inr (.inr (.inr (fun _ => none)))))), ((w 4), .inl (k 6, 6, .inr (.inr (.inr (.inr (fun _ => none))))))]) (w1 := [(mo, .inr (13, [.int 0, .ref (w 0), .int 0, .ref (w 1), .int 0, .int 0, .ref (w 2), .int 0, .ref (w 3), .ref (w 4), .int 0]))]) hP hD [0] [1, 2, 3, 4, 5, 6, 7] rfl rfl (by decide) (by decide) hk1 hFc hP1 hD1
          have hP : va_P D vwCl [((w 0), .inl (k 5, 3, .inr (.inr (.inr (.inr (fun i => some (w (5 + i)))))))), ((w 5), .inl (k 0, 768, .inl (fun _ => 0))), ((w 6), .inl (k 0, 768, .inl (fun _ => 0))), ((w 7), .inl (k 0, 768, .inl (fun _ => 0))), ((w 1), .inl (k 6, 8, .inr (.inr (.inr (.inr (fun _ => none)))))), ((w 2), .inl (k 6, 20, .inr (.inr (.inr (.inr (fun _ => none)))))), ((w 4), .inl (k 6, 6, .inr (.inr (.inr (.inr (fun _ => none)))))), (mo, .inr (13, [.int 0, .ref (w 0), .int 0, .ref (w 1), .int 0, .int 0, .ref (w 2), .int 0, .ref (w 3), .ref (w 4), .int 0]))] H := hP
          have hD : va_D A [((w 0), .inl (k 5, 3, .inr (.inr (.inr (.inr (fun i => some (w (5 + i)))))))), ((w 5), .inl (k 0, 768, .inl (fun _ => 0))), ((w 6), .inl (k 0, 768, .inl (fun _ => 0))), ((w 7), .inl (k 0, 768, .inl (fun _ => 0))), ((w 1), .inl (k 6, 8, .inr (.inr (.inr (.inr (fun _ => none)))))), ((w 2), .inl (k 6, 20, .inr (.inr (.inr (.inr (fun _ => none)))))), ((w 4), .inl (k 6, 6, .inr (.inr (.inr (.inr (fun _ => none)))))), (mo, .inr (13, [.int 0, .ref (w 0), .int 0, .ref (w 1), .int 0, .int 0, .ref (w 2), .int 0, .ref (w 3), .ref (w 4), .int 0]))] := hD
          have e_r18 : r18 = 0 := hw_r18.trans (by decide)
          subst e_r18
          refine lv_if_eq (tgt := 72) hx hb dX12_pattern_65 (by decide) (fun c_65 => ?_) (fun c_65 => absurd (by decide) c_65)
          refine lv_aload_n hx hb dX12_pattern_72 rfl (lv_at hl 1 rfl) ?_
          refine lv_iconst (v := 5) hx hb dX12_pattern_73 (by decide) ?_
          refine w_newa (atype := .int) hx hb (hts (.arrayClass .int) (by decide +kernel)) (ty := .int) rfl 2 rfl hC.1 hP hD hS hA (a0 := (5, .inl (fun _ => 0))) (N' := 5) (fun _ => rfl) (by decide) (by decide) (Nat.le_of_ble_eq_true rfl) (Nat.le_of_ble_eq_true rfl) (Nat.le_of_ble_eq_true rfl) dX12_pattern_74 (fun q74 H hP hD hS => ?_)
          have hP : va_P D vwCl [((w 0), .inl (k 5, 3, .inr (.inr (.inr (.inr (fun i => some (w (5 + i)))))))), ((w 5), .inl (k 0, 768, .inl (fun _ => 0))), ((w 6), .inl (k 0, 768, .inl (fun _ => 0))), ((w 7), .inl (k 0, 768, .inl (fun _ => 0))), ((w 1), .inl (k 6, 8, .inr (.inr (.inr (.inr (fun _ => none)))))), ((w 2), .inl (k 6, 20, .inr (.inr (.inr (.inr (fun _ => none)))))), ((w 4), .inl (k 6, 6, .inr (.inr (.inr (.inr (fun _ => none)))))), (mo, .inr (13, [.int 0, .ref (w 0), .int 0, .ref (w 1), .int 0, .int 0, .ref (w 2), .int 0, .ref (w 3), .ref (w 4), .int 0])), (q74, .inl (k 2, 5, .inl (fun _ => 0)))] H := hP
          have hD : va_D A [((w 0), .inl (k 5, 3, .inr (.inr (.inr (.inr (fun i => some (w (5 + i)))))))), ((w 5), .inl (k 0, 768, .inl (fun _ => 0))), ((w 6), .inl (k 0, 768, .inl (fun _ => 0))), ((w 7), .inl (k 0, 768, .inl (fun _ => 0))), ((w 1), .inl (k 6, 8, .inr (.inr (.inr (.inr (fun _ => none)))))), ((w 2), .inl (k 6, 20, .inr (.inr (.inr (.inr (fun _ => none)))))), ((w 4), .inl (k 6, 6, .inr (.inr (.inr (.inr (fun _ => none)))))), (mo, .inr (13, [.int 0, .ref (w 0), .int 0, .ref (w 1), .int 0, .int 0, .ref (w 2), .int 0, .ref (w 3), .ref (w 4), .int 0])), (q74, .inl (k 2, 5, .inl (fun _ => 0)))] := hD
          refine lv_dup hx hb dX12_pattern_76 rfl ?_
          refine lv_iconst (v := 0) hx hb dX12_pattern_77 (by decide) ?_
          refine lv_bipush (v := 112) hx hb dX12_pattern_78 (by decide) ?_
          refine va_iast hx hb hC.1 hP hD hS 8 2 rfl rfl (vp_in_nI (n := 0) (N := 5) (by decide) (by decide)) dX12_pattern_80 (fun H locs hP hD hS => ?_)
          have hP : va_P D vwCl [((w 0), .inl (k 5, 3, .inr (.inr (.inr (.inr (fun i => some (w (5 + i)))))))), ((w 5), .inl (k 0, 768, .inl (fun _ => 0))), ((w 6), .inl (k 0, 768, .inl (fun _ => 0))), ((w 7), .inl (k 0, 768, .inl (fun _ => 0))), ((w 1), .inl (k 6, 8, .inr (.inr (.inr (.inr (fun _ => none)))))), ((w 2), .inl (k 6, 20, .inr (.inr (.inr (.inr (fun _ => none)))))), ((w 4), .inl (k 6, 6, .inr (.inr (.inr (.inr (fun _ => none)))))), (mo, .inr (13, [.int 0, .ref (w 0), .int 0, .ref (w 1), .int 0, .int 0, .ref (w 2), .int 0, .ref (w 3), .ref (w 4), .int 0])), (q74, .inl (k 2, 5, .inl (upd (fun _ => 0) (0 : Int32).toNatClampNeg 112)))] H := hP
          have hD : va_D A [((w 0), .inl (k 5, 3, .inr (.inr (.inr (.inr (fun i => some (w (5 + i)))))))), ((w 5), .inl (k 0, 768, .inl (fun _ => 0))), ((w 6), .inl (k 0, 768, .inl (fun _ => 0))), ((w 7), .inl (k 0, 768, .inl (fun _ => 0))), ((w 1), .inl (k 6, 8, .inr (.inr (.inr (.inr (fun _ => none)))))), ((w 2), .inl (k 6, 20, .inr (.inr (.inr (.inr (fun _ => none)))))), ((w 4), .inl (k 6, 6, .inr (.inr (.inr (.inr (fun _ => none)))))), (mo, .inr (13, [.int 0, .ref (w 0), .int 0, .ref (w 1), .int 0, .int 0, .ref (w 2), .int 0, .ref (w 3), .ref (w 4), .int 0])), (q74, .inl (k 2, 5, .inl (upd (fun _ => 0) (0 : Int32).toNatClampNeg 112)))] := hD
          refine lv_dup hx hb dX12_pattern_81 rfl ?_
          refine lv_iconst (v := 1) hx hb dX12_pattern_82 (by decide) ?_
          refine lv_iload_n hx hb dX12_pattern_83 rfl (lv_at hl 2 rfl) ?_
          refine va_iast hx hb hC.1 hP hD hS 8 2 rfl rfl (vp_in_nI (n := 1) (N := 5) (by decide) (by decide)) dX12_pattern_84 (fun H locs hP hD hS => ?_)
          have hP : va_P D vwCl [((w 0), .inl (k 5, 3, .inr (.inr (.inr (.inr (fun i => some (w (5 + i)))))))), ((w 5), .inl (k 0, 768, .inl (fun _ => 0))), ((w 6), .inl (k 0, 768, .inl (fun _ => 0))), ((w 7), .inl (k 0, 768, .inl (fun _ => 0))), ((w 1), .inl (k 6, 8, .inr (.inr (.inr (.inr (fun _ => none)))))), ((w 2), .inl (k 6, 20, .inr (.inr (.inr (.inr (fun _ => none)))))), ((w 4), .inl (k 6, 6, .inr (.inr (.inr (.inr (fun _ => none)))))), (mo, .inr (13, [.int 0, .ref (w 0), .int 0, .ref (w 1), .int 0, .int 0, .ref (w 2), .int 0, .ref (w 3), .ref (w 4), .int 0])), (q74, .inl (k 2, 5, .inl (upd (upd (fun _ => 0) (0 : Int32).toNatClampNeg 112) (1 : Int32).toNatClampNeg g)))] H := hP
          have hD : va_D A [((w 0), .inl (k 5, 3, .inr (.inr (.inr (.inr (fun i => some (w (5 + i)))))))), ((w 5), .inl (k 0, 768, .inl (fun _ => 0))), ((w 6), .inl (k 0, 768, .inl (fun _ => 0))), ((w 7), .inl (k 0, 768, .inl (fun _ => 0))), ((w 1), .inl (k 6, 8, .inr (.inr (.inr (.inr (fun _ => none)))))), ((w 2), .inl (k 6, 20, .inr (.inr (.inr (.inr (fun _ => none)))))), ((w 4), .inl (k 6, 6, .inr (.inr (.inr (.inr (fun _ => none)))))), (mo, .inr (13, [.int 0, .ref (w 0), .int 0, .ref (w 1), .int 0, .int 0, .ref (w 2), .int 0, .ref (w 3), .ref (w 4), .int 0])), (q74, .inl (k 2, 5, .inl (upd (upd (fun _ => 0) (0 : Int32).toNatClampNeg 112) (1 : Int32).toNatClampNeg g)))] := hD
          refine lv_dup hx hb dX12_pattern_85 rfl ?_
          refine lv_iconst (v := 2) hx hb dX12_pattern_86 (by decide) ?_
          refine lv_iload_n hx hb dX12_pattern_87 rfl (lv_at hl 3 rfl) ?_
          refine va_iast hx hb hC.1 hP hD hS 8 2 rfl rfl (vp_in_nI (n := 2) (N := 5) (by decide) (by decide)) dX12_pattern_88 (fun H locs hP hD hS => ?_)
          have hP : va_P D vwCl [((w 0), .inl (k 5, 3, .inr (.inr (.inr (.inr (fun i => some (w (5 + i)))))))), ((w 5), .inl (k 0, 768, .inl (fun _ => 0))), ((w 6), .inl (k 0, 768, .inl (fun _ => 0))), ((w 7), .inl (k 0, 768, .inl (fun _ => 0))), ((w 1), .inl (k 6, 8, .inr (.inr (.inr (.inr (fun _ => none)))))), ((w 2), .inl (k 6, 20, .inr (.inr (.inr (.inr (fun _ => none)))))), ((w 4), .inl (k 6, 6, .inr (.inr (.inr (.inr (fun _ => none)))))), (mo, .inr (13, [.int 0, .ref (w 0), .int 0, .ref (w 1), .int 0, .int 0, .ref (w 2), .int 0, .ref (w 3), .ref (w 4), .int 0])), (q74, .inl (k 2, 5, .inl (upd (upd (upd (fun _ => 0) (0 : Int32).toNatClampNeg 112) (1 : Int32).toNatClampNeg g) (2 : Int32).toNatClampNeg x)))] H := hP
          have hD : va_D A [((w 0), .inl (k 5, 3, .inr (.inr (.inr (.inr (fun i => some (w (5 + i)))))))), ((w 5), .inl (k 0, 768, .inl (fun _ => 0))), ((w 6), .inl (k 0, 768, .inl (fun _ => 0))), ((w 7), .inl (k 0, 768, .inl (fun _ => 0))), ((w 1), .inl (k 6, 8, .inr (.inr (.inr (.inr (fun _ => none)))))), ((w 2), .inl (k 6, 20, .inr (.inr (.inr (.inr (fun _ => none)))))), ((w 4), .inl (k 6, 6, .inr (.inr (.inr (.inr (fun _ => none)))))), (mo, .inr (13, [.int 0, .ref (w 0), .int 0, .ref (w 1), .int 0, .int 0, .ref (w 2), .int 0, .ref (w 3), .ref (w 4), .int 0])), (q74, .inl (k 2, 5, .inl (upd (upd (upd (fun _ => 0) (0 : Int32).toNatClampNeg 112) (1 : Int32).toNatClampNeg g) (2 : Int32).toNatClampNeg x)))] := hD
          refine lv_dup hx hb dX12_pattern_89 rfl ?_
          refine lv_iconst (v := 3) hx hb dX12_pattern_90 (by decide) ?_
          refine lv_iload_n hx hb dX12_pattern_91 rfl (lv_at hl 4 rfl) ?_
          refine va_iast hx hb hC.1 hP hD hS 8 2 rfl rfl (vp_in_nI (n := 3) (N := 5) (by decide) (by decide)) dX12_pattern_92 (fun H locs hP hD hS => ?_)
          have hP : va_P D vwCl [((w 0), .inl (k 5, 3, .inr (.inr (.inr (.inr (fun i => some (w (5 + i)))))))), ((w 5), .inl (k 0, 768, .inl (fun _ => 0))), ((w 6), .inl (k 0, 768, .inl (fun _ => 0))), ((w 7), .inl (k 0, 768, .inl (fun _ => 0))), ((w 1), .inl (k 6, 8, .inr (.inr (.inr (.inr (fun _ => none)))))), ((w 2), .inl (k 6, 20, .inr (.inr (.inr (.inr (fun _ => none)))))), ((w 4), .inl (k 6, 6, .inr (.inr (.inr (.inr (fun _ => none)))))), (mo, .inr (13, [.int 0, .ref (w 0), .int 0, .ref (w 1), .int 0, .int 0, .ref (w 2), .int 0, .ref (w 3), .ref (w 4), .int 0])), (q74, .inl (k 2, 5, .inl (upd (upd (upd (upd (fun _ => 0) (0 : Int32).toNatClampNeg 112) (1 : Int32).toNatClampNeg g) (2 : Int32).toNatClampNeg x) (3 : Int32).toNatClampNeg y)))] H := hP
          have hD : va_D A [((w 0), .inl (k 5, 3, .inr (.inr (.inr (.inr (fun i => some (w (5 + i)))))))), ((w 5), .inl (k 0, 768, .inl (fun _ => 0))), ((w 6), .inl (k 0, 768, .inl (fun _ => 0))), ((w 7), .inl (k 0, 768, .inl (fun _ => 0))), ((w 1), .inl (k 6, 8, .inr (.inr (.inr (.inr (fun _ => none)))))), ((w 2), .inl (k 6, 20, .inr (.inr (.inr (.inr (fun _ => none)))))), ((w 4), .inl (k 6, 6, .inr (.inr (.inr (.inr (fun _ => none)))))), (mo, .inr (13, [.int 0, .ref (w 0), .int 0, .ref (w 1), .int 0, .int 0, .ref (w 2), .int 0, .ref (w 3), .ref (w 4), .int 0])), (q74, .inl (k 2, 5, .inl (upd (upd (upd (upd (fun _ => 0) (0 : Int32).toNatClampNeg 112) (1 : Int32).toNatClampNeg g) (2 : Int32).toNatClampNeg x) (3 : Int32).toNatClampNeg y)))] := hD
          refine lv_dup hx hb dX12_pattern_93 rfl ?_
          refine lv_iconst (v := 4) hx hb dX12_pattern_94 (by decide) ?_
          refine lv_iload hx hb dX12_pattern_95 (lv_at hl 5 rfl) ?_
          refine va_iast hx hb hC.1 hP hD hS 8 2 rfl rfl (vp_in_nI (n := 4) (N := 5) (by decide) (by decide)) dX12_pattern_97 (fun H locs hP hD hS => ?_)
          have hP : va_P D vwCl [((w 0), .inl (k 5, 3, .inr (.inr (.inr (.inr (fun i => some (w (5 + i)))))))), ((w 5), .inl (k 0, 768, .inl (fun _ => 0))), ((w 6), .inl (k 0, 768, .inl (fun _ => 0))), ((w 7), .inl (k 0, 768, .inl (fun _ => 0))), ((w 1), .inl (k 6, 8, .inr (.inr (.inr (.inr (fun _ => none)))))), ((w 2), .inl (k 6, 20, .inr (.inr (.inr (.inr (fun _ => none)))))), ((w 4), .inl (k 6, 6, .inr (.inr (.inr (.inr (fun _ => none)))))), (mo, .inr (13, [.int 0, .ref (w 0), .int 0, .ref (w 1), .int 0, .int 0, .ref (w 2), .int 0, .ref (w 3), .ref (w 4), .int 0])), (q74, .inl (k 2, 5, .inl (upd (upd (upd (upd (upd (fun _ => 0) (0 : Int32).toNatClampNeg 112) (1 : Int32).toNatClampNeg g) (2 : Int32).toNatClampNeg x) (3 : Int32).toNatClampNeg y) (4 : Int32).toNatClampNeg z)))] H := hP
          have hD : va_D A [((w 0), .inl (k 5, 3, .inr (.inr (.inr (.inr (fun i => some (w (5 + i)))))))), ((w 5), .inl (k 0, 768, .inl (fun _ => 0))), ((w 6), .inl (k 0, 768, .inl (fun _ => 0))), ((w 7), .inl (k 0, 768, .inl (fun _ => 0))), ((w 1), .inl (k 6, 8, .inr (.inr (.inr (.inr (fun _ => none)))))), ((w 2), .inl (k 6, 20, .inr (.inr (.inr (.inr (fun _ => none)))))), ((w 4), .inl (k 6, 6, .inr (.inr (.inr (.inr (fun _ => none)))))), (mo, .inr (13, [.int 0, .ref (w 0), .int 0, .ref (w 1), .int 0, .int 0, .ref (w 2), .int 0, .ref (w 3), .ref (w 4), .int 0])), (q74, .inl (k 2, 5, .inl (upd (upd (upd (upd (upd (fun _ => 0) (0 : Int32).toNatClampNeg 112) (1 : Int32).toNatClampNeg g) (2 : Int32).toNatClampNeg x) (3 : Int32).toNatClampNeg y) (4 : Int32).toNatClampNeg z)))] := hD
          have hPc := hP.sub (ws' := [(mo, .inr (13, [.int 0, .ref (w 0), .int 0, .ref (w 1), .int 0, .int 0, .ref (w 2), .int 0, .ref (w 3), .ref (w 4), .int 0])), ((w 2), .inl (k 6, 20, .inr (.inr (.inr (.inr (fun _ => none)))))), (q74, .inl (k 2, 5, .inl (upd (upd (upd (upd (upd (fun _ => 0) (0 : Int32).toNatClampNeg 112) (1 : Int32).toNatClampNeg g) (2 : Int32).toNatClampNeg x) (3 : Int32).toNatClampNeg y) (4 : Int32).toNatClampNeg z)))]) [7, 5, 8] rfl
          have hDc := hD.sub (ws' := [(mo, .inr (13, [.int 0, .ref (w 0), .int 0, .ref (w 1), .int 0, .int 0, .ref (w 2), .int 0, .ref (w 3), .ref (w 4), .int 0])), ((w 2), .inl (k 6, 20, .inr (.inr (.inr (.inr (fun _ => none)))))), (q74, .inl (k 2, 5, .inl (upd (upd (upd (upd (upd (fun _ => 0) (0 : Int32).toNatClampNeg 112) (1 : Int32).toNatClampNeg g) (2 : Int32).toNatClampNeg x) (3 : Int32).toNatClampNeg y) (4 : Int32).toNatClampNeg z)))]) [7, 5, 8] (by decide) rfl
          have hFc := va_free (wc := [(mo, .inr (13, [.int 0, .ref (w 0), .int 0, .ref (w 1), .int 0, .int 0, .ref (w 2), .int 0, .ref (w 3), .ref (w 4), .int 0])), ((w 2), .inl (k 6, 20, .inr (.inr (.inr (.inr (fun _ => none)))))), (q74, .inl (k 2, 5, .inl (upd (upd (upd (upd (upd (fun _ => 0) (0 : Int32).toNatClampNeg 112) (1 : Int32).toNatClampNeg g) (2 : Int32).toNatClampNeg x) (3 : Int32).toNatClampNeg y) (4 : Int32).toNatClampNeg z)))]) hD hS hA [7, 5, 8] rfl
          refine va_calli (va_runV (As := [.ref q74]) (rest := []) ⟨hx, hb, hml, hown, hts⟩ (k_X12_made l D k e0 H.size mo w q74 (5, .inl (upd (upd (upd (upd (upd (fun _ => 0) (0 : Int32).toNatClampNeg 112) (1 : Int32).toNatClampNeg g) (2 : Int32).toNatClampNeg x) (3 : Int32).toNatClampNeg y) (4 : Int32).toNatClampNeg z))) (cwV 1 hts gX12_pattern_X12_made rfl rfl rfl (by decide +kernel) ⟨Nat.le_of_ble_eq_true rfl, Nat.le_of_ble_eq_true rfl⟩) ⟨mPc_fb, va_recv hC.1 hPc (ci := 13) (q0 := 0) rfl rfl, mPc_go hC hHf hS hPc hDc hFc⟩ rfl rfl hl.1 rfl (lv_room (Nat.le_of_ble_eq_true rfl)) dX12_pattern_98 ⟨Nat.le_of_ble_eq_true rfl, Nat.le_of_ble_eq_true rfl⟩) hS (fun q9 _ h9 => hFc q9 h9) hFc (fun r21 u20 t H locs ht hvm hw_r21 hB hz1 hk1 hS => ?_)
          obtain ⟨hP1, hD1⟩ := hB
          rw [ht] at hP1
          obtain ⟨hP, hD⟩ := va_join (wr := [((w 0), .inl (k 5, 3, .inr (.inr (.inr (.inr (fun i => some (w (5 + i)))))))), ((w 5), .inl (k 0, 768, .inl (fun _ => 0))), ((w 6), .inl (k 0, 768, .inl (fun _ => 0))), ((w 7), .inl (k 0, 768, .inl (fun _ => 0))), ((w 1), .inl (k 6, 8, .inr (.inr (.inr (.inr (fun _ => none)))))), ((w 4), .inl (k 6, 6, .inr (.inr (.inr (.inr (fun _ => none))))))]) (w1 := [(mo, .inr (13, u20))]) hP hD [7, 5, 8] [0, 1, 2, 3, 4, 6] rfl rfl (by decide) (by decide) hk1 hFc hP1 hD1
          have hP : va_P D vwCl [((w 0), .inl (k 5, 3, .inr (.inr (.inr (.inr (fun i => some (w (5 + i)))))))), ((w 5), .inl (k 0, 768, .inl (fun _ => 0))), ((w 6), .inl (k 0, 768, .inl (fun _ => 0))), ((w 7), .inl (k 0, 768, .inl (fun _ => 0))), ((w 1), .inl (k 6, 8, .inr (.inr (.inr (.inr (fun _ => none)))))), ((w 4), .inl (k 6, 6, .inr (.inr (.inr (.inr (fun _ => none)))))), (mo, .inr (13, u20))] H := hP
          have hD : va_D A [((w 0), .inl (k 5, 3, .inr (.inr (.inr (.inr (fun i => some (w (5 + i)))))))), ((w 5), .inl (k 0, 768, .inl (fun _ => 0))), ((w 6), .inl (k 0, 768, .inl (fun _ => 0))), ((w 7), .inl (k 0, 768, .inl (fun _ => 0))), ((w 1), .inl (k 6, 8, .inr (.inr (.inr (.inr (fun _ => none)))))), ((w 4), .inl (k 6, 6, .inr (.inr (.inr (.inr (fun _ => none)))))), (mo, .inr (13, u20))] := hD
          obtain ⟨hu0, hw_r21⟩ := hw_r21
          subst hw_r21
          exact W.iret (v := 0) hx hb hr (fun t ht hW => ⟨⟨0, u20, rfl, Or.inl ⟨by omega, hu0, rfl⟩, ⟨by rw [ht]; exact hP.sub [6] rfl, hD.sub [6] (by decide) rfl⟩⟩, hS.F ht⟩) hS.2.2 dX12_pattern_101

set_option maxHeartbeats 4000000 in
set_option maxRecDepth 100000 in
theorem k_X12_path (l : Launch) (D : va_G) (k : Nat → ClassId) (e0 : Nat) (sz : Nat) (mo : Nat) (w : Nat → Nat) (g x y z b : Int32) : Met l yX12_path wsX12_path ({ frames := 2, cells := 1, slots := 5, locals := 42 }) (mPc D k e0 sz [.ref mo, .int g, .int x, .int y, .int z, .int b] [(mo, .inr (13, [.int 0, .ref (w 0), .int 0, .ref (w 1), .int 0, .int 0, .ref (w 2), .int 0, .ref (w 3), .ref (w 4), .int 0])), ((w 0), .inl (k 5, 3, .inr (.inr (.inr (.inr (fun i => some (w (5 + i)))))))), ((w 5), .inl (k 0, 768, .inl (fun _ => 0))), ((w 6), .inl (k 0, 768, .inl (fun _ => 0))), ((w 7), .inl (k 0, 768, .inl (fun _ => 0))), ((w 1), .inl (k 6, 8, .inr (.inr (.inr (.inr (fun _ => none)))))), ((w 2), .inl (k 6, 20, .inr (.inr (.inr (.inr (fun _ => none)))))), ((w 4), .inl (k 6, 6, .inr (.inr (.inr (.inr (fun _ => none))))))]) (va_Qi (fun r (u : List Value) => (((0 ≤ g.toInt ∧ g.toInt < 4) ∧ (((0 ≤ x.toInt ∧ x.toInt < 12) ∨ (20 ≤ x.toInt ∧ x.toInt < 23)) ∧ ((0 ≤ y.toInt ∧ y.toInt < 12) ∨ (20 ≤ y.toInt ∧ y.toInt < 23)) ∧ ((0 ≤ z.toInt ∧ z.toInt < 12) ∨ (20 ≤ z.toInt ∧ z.toInt < 23))) ∧ (0 ≤ y.toInt ∧ y.toInt < 8)) ∧ u[0]? = some (.int 0) ∧ r = 0) ∨ (¬ ((0 ≤ g.toInt ∧ g.toInt < 4) ∧ (((0 ≤ x.toInt ∧ x.toInt < 12) ∨ (20 ≤ x.toInt ∧ x.toInt < 23)) ∧ ((0 ≤ y.toInt ∧ y.toInt < 12) ∨ (20 ≤ y.toInt ∧ y.toInt < 23)) ∧ ((0 ≤ z.toInt ∧ z.toInt < 12) ∨ (20 ≤ z.toInt ∧ z.toInt < 23))) ∧ (0 ≤ y.toInt ∧ y.toInt < 8)) ∧ u[0]? = some (.int 1))) (fun u t => va_P D vwCl [(mo, .inr (13, u))] t.heap ∧ va_D (va_A [(mo, .inr (13, [.int 0, .ref (w 0), .int 0, .ref (w 1), .int 0, .int 0, .ref (w 2), .int 0, .ref (w 3), .ref (w 4), .int 0])), ((w 0), .inl (k 5, 3, .inr (.inr (.inr (.inr (fun i => some (w (5 + i)))))))), ((w 5), .inl (k 0, 768, .inl (fun _ => 0))), ((w 6), .inl (k 0, 768, .inl (fun _ => 0))), ((w 7), .inl (k 0, 768, .inl (fun _ => 0))), ((w 1), .inl (k 6, 8, .inr (.inr (.inr (.inr (fun _ => none)))))), ((w 2), .inl (k 6, 20, .inr (.inr (.inr (.inr (fun _ => none)))))), ((w 4), .inl (k 6, 6, .inr (.inr (.inr (.inr (fun _ => none))))))] sz) [(mo, .inr (13, u))]) (va_A [(mo, .inr (13, [.int 0, .ref (w 0), .int 0, .ref (w 1), .int 0, .int 0, .ref (w 2), .int 0, .ref (w 3), .ref (w 4), .int 0])), ((w 0), .inl (k 5, 3, .inr (.inr (.inr (.inr (fun i => some (w (5 + i)))))))), ((w 5), .inl (k 0, 768, .inl (fun _ => 0))), ((w 6), .inl (k 0, 768, .inl (fun _ => 0))), ((w 7), .inl (k 0, 768, .inl (fun _ => 0))), ((w 1), .inl (k 6, 8, .inr (.inr (.inr (.inr (fun _ => none)))))), ((w 2), .inl (k 6, 20, .inr (.inr (.inr (.inr (fun _ => none)))))), ((w 4), .inl (k 6, 6, .inr (.inr (.inr (.inr (fun _ => none))))))] sz)) 1 5 (va_A [(mo, .inr (13, [.int 0, .ref (w 0), .int 0, .ref (w 1), .int 0, .int 0, .ref (w 2), .int 0, .ref (w 3), .ref (w 4), .int 0])), ((w 0), .inl (k 5, 3, .inr (.inr (.inr (.inr (fun i => some (w (5 + i)))))))), ((w 5), .inl (k 0, 768, .inl (fun _ => 0))), ((w 6), .inl (k 0, 768, .inl (fun _ => 0))), ((w 7), .inl (k 0, 768, .inl (fun _ => 0))), ((w 1), .inl (k 6, 8, .inr (.inr (.inr (.inr (fun _ => none)))))), ((w 2), .inl (k 6, 20, .inr (.inr (.inr (.inr (fun _ => none)))))), ((w 4), .inl (k 6, 6, .inr (.inr (.inr (.inr (fun _ => none))))))] sz) := by
  refine Met.ofW (cc := cX12_path) (maxL := 7) (ret := (some .int)) (by decide) rfl ?_
  intro p e s m args below meth c s₁ B hml hv
  obtain ⟨rfl, rfl, hP, hC, hD0, hHf⟩ := hv
  have hx := B.exec
  have hb := B.bytes
  have hr := B.returns
  have hts := atoms_spec (ws := wsX12_path) B.pre
  have hown : s.vm.findClass RX12 = some m.cls := findClass_of_methodNamed B.named
  have hlocks := B.notSynchronized
  have hD := hD0.self (sz := s.heap.size)
  generalize hAe : va_A [(mo, .inr (13, [.int 0, .ref (w 0), .int 0, .ref (w 1), .int 0, .int 0, .ref (w 2), .int 0, .ref (w 3), .ref (w 4), .int 0])), ((w 0), .inl (k 5, 3, .inr (.inr (.inr (.inr (fun i => some (w (5 + i)))))))), ((w 5), .inl (k 0, 768, .inl (fun _ => 0))), ((w 6), .inl (k 0, 768, .inl (fun _ => 0))), ((w 7), .inl (k 0, 768, .inl (fun _ => 0))), ((w 1), .inl (k 6, 8, .inr (.inr (.inr (.inr (fun _ => none)))))), ((w 2), .inl (k 6, 20, .inr (.inr (.inr (.inr (fun _ => none)))))), ((w 4), .inl (k 6, 6, .inr (.inr (.inr (.inr (fun _ => none))))))] s.heap.size = A at hD hHf ⊢
  have hA : ∀ q : Nat, s.heap.size ≤ q → A q := fun q h => by rw [← hAe]; exact Or.inr h
  have hS : va_S A s.heap s.heap [] := va_S.rf
  refine w_entry (Nat.le_of_ble_eq_true rfl) (fun ls hl => ?_)
  have hl : lv_has ls 7 [(0, .ref mo), (1, .int g), (2, .int x), (3, .int y), (4, .int z), (5, .int b)] := hl
  refine lv_iload_n hx hb dX12_path_0 rfl (lv_at hl 1 rfl) ?_
  refine lv_iconst (v := 0) hx hb dX12_path_1 (by decide) ?_
  refine lv_iconst (v := 3) hx hb dX12_path_2 (by decide) ?_
  refine pz_i (va_runS (As := [.int g, .int 0, .int 3]) (rest := []) ⟨hx, hb, hml, hown, hts⟩ (k_X12_in l D k s.heap g 0 3) (va_cwS 3 hts gX12_path_X12_in rfl rfl rfl (by decide +kernel) ⟨Nat.le_of_ble_eq_true rfl, Nat.le_of_ble_eq_true rfl⟩) ⟨pPc_fb, pPc_go hC⟩ rfl rfl hl.1 rfl (lv_room (Nat.le_of_ble_eq_true rfl)) dX12_path_3 ⟨Nat.le_of_ble_eq_true rfl, Nat.le_of_ble_eq_true rfl⟩) hS (fun r1 locs hw_r1 hS => ?_)
  have hw_r1 : r1 = bi (0 ≤ g.toInt ∧ g.toInt ≤ 3) := hw_r1
  refine lv_if_eq (tgt := 35) hx hb dX12_path_6 (by decide) (fun c_6 => ?_) (fun c_6 => ?_)
  · have f_6 := bi_z hw_r1 c_6
    refine lv_iconst (v := 0) hx hb dX12_path_35 (by decide) ?_
    refine lv_istore (lv' := [(6, .int 0), (0, .ref mo), (1, .int g), (2, .int x), (3, .int y), (4, .int z), (5, .int b)]) hx hb dX12_path_36 hl (by decide) rfl (fun ls hl => ?_)
    refine lv_aload_n hx hb dX12_path_38 rfl (lv_at hl 1 rfl) ?_
    refine lv_iload hx hb dX12_path_39 (lv_at hl 0 rfl) ?_
    refine lv_if_ne (tgt := 48) hx hb dX12_path_41 (by decide) (fun c_41 => absurd c_41 (by decide)) (fun c_41 => ?_)
    refine lv_iconst (v := 1) hx hb dX12_path_44 (by decide) ?_
    refine lv_goto (tgt := 62) hx hb dX12_path_45 (by decide) ?_
    have hPc := hP.sub (ws' := [(mo, .inr (13, [.int 0, .ref (w 0), .int 0, .ref (w 1), .int 0, .int 0, .ref (w 2), .int 0, .ref (w 3), .ref (w 4), .int 0]))]) [0] rfl
    have hDc := hD.sub (ws' := [(mo, .inr (13, [.int 0, .ref (w 0), .int 0, .ref (w 1), .int 0, .int 0, .ref (w 2), .int 0, .ref (w 3), .ref (w 4), .int 0]))]) [0] (by decide) rfl
    have hFc := va_free (wc := [(mo, .inr (13, [.int 0, .ref (w 0), .int 0, .ref (w 1), .int 0, .int 0, .ref (w 2), .int 0, .ref (w 3), .ref (w 4), .int 0]))]) hD hS hA [0] rfl
    refine va_calli (va_runV (As := [.int 1]) (rest := []) ⟨hx, hb, hml, hown, hts⟩ (k_X12_fails l D k e0 s.heap.size mo w 0 1) (cwV 1 hts gX12_path_X12_fails rfl rfl rfl (by decide +kernel) ⟨Nat.le_of_ble_eq_true rfl, Nat.le_of_ble_eq_true rfl⟩) ⟨mPc_fb, va_recv hC.1 hPc (ci := 13) (q0 := 0) rfl rfl, mPc_go hC hHf hS hPc hDc hFc⟩ rfl rfl hl.1 rfl (lv_room (Nat.le_of_ble_eq_true rfl)) dX12_path_62 ⟨Nat.le_of_ble_eq_true rfl, Nat.le_of_ble_eq_true rfl⟩) hS (fun q9 _ h9 => hFc q9 h9) hFc (fun r3 u2 t H locs ht hvm hw_r3 hB hz1 hk1 hS => ?_)
    obtain ⟨hP1, hD1⟩ := hB
    rw [ht] at hP1
    obtain ⟨hP, hD⟩ := va_join (wr := [((w 0), .inl (k 5, 3, .inr (.inr (.inr (.inr (fun i => some (w (5 + i)))))))), ((w 5), .inl (k 0, 768, .inl (fun _ => 0))), ((w 6), .inl (k 0, 768, .inl (fun _ => 0))), ((w 7), .inl (k 0, 768, .inl (fun _ => 0))), ((w 1), .inl (k 6, 8, .inr (.inr (.inr (.inr (fun _ => none)))))), ((w 2), .inl (k 6, 20, .inr (.inr (.inr (.inr (fun _ => none)))))), ((w 4), .inl (k 6, 6, .inr (.inr (.inr (.inr (fun _ => none))))))]) (w1 := [(mo, .inr (13, [.int 1, .ref (w 0), .int 0, .ref (w 1), .int 0, .int 0, .ref (w 2), .int 0, .ref (w 3), .ref (w 4), .int 0]))]) hP hD [0] [1, 2, 3, 4, 5, 6, 7] rfl rfl (by decide) (by decide) hk1 hFc hP1 hD1
    have hP : va_P D vwCl [((w 0), .inl (k 5, 3, .inr (.inr (.inr (.inr (fun i => some (w (5 + i)))))))), ((w 5), .inl (k 0, 768, .inl (fun _ => 0))), ((w 6), .inl (k 0, 768, .inl (fun _ => 0))), ((w 7), .inl (k 0, 768, .inl (fun _ => 0))), ((w 1), .inl (k 6, 8, .inr (.inr (.inr (.inr (fun _ => none)))))), ((w 2), .inl (k 6, 20, .inr (.inr (.inr (.inr (fun _ => none)))))), ((w 4), .inl (k 6, 6, .inr (.inr (.inr (.inr (fun _ => none)))))), (mo, .inr (13, [.int 1, .ref (w 0), .int 0, .ref (w 1), .int 0, .int 0, .ref (w 2), .int 0, .ref (w 3), .ref (w 4), .int 0]))] H := hP
    have hD : va_D A [((w 0), .inl (k 5, 3, .inr (.inr (.inr (.inr (fun i => some (w (5 + i)))))))), ((w 5), .inl (k 0, 768, .inl (fun _ => 0))), ((w 6), .inl (k 0, 768, .inl (fun _ => 0))), ((w 7), .inl (k 0, 768, .inl (fun _ => 0))), ((w 1), .inl (k 6, 8, .inr (.inr (.inr (.inr (fun _ => none)))))), ((w 2), .inl (k 6, 20, .inr (.inr (.inr (.inr (fun _ => none)))))), ((w 4), .inl (k 6, 6, .inr (.inr (.inr (.inr (fun _ => none)))))), (mo, .inr (13, [.int 1, .ref (w 0), .int 0, .ref (w 1), .int 0, .int 0, .ref (w 2), .int 0, .ref (w 3), .ref (w 4), .int 0]))] := hD
    have e_r3 : r3 = 1 := hw_r3.trans (by decide)
    subst e_r3
    refine lv_if_eq (tgt := 72) hx hb dX12_path_65 (by decide) (fun c_65 => absurd c_65 (by decide)) (fun c_65 => ?_)
    refine lv_iconst (v := 0) hx hb dX12_path_68 (by decide) ?_
    refine lv_goto (tgt := 111) hx hb dX12_path_69 (by decide) ?_
    refine W.widen (k := 1) (n := 5) (Nat.le_of_ble_eq_true rfl) (Nat.le_of_ble_eq_true rfl) ?_
    exact W.iret (v := 0) hx hb hr (fun t ht hW => ⟨⟨0, [.int 1, .ref (w 0), .int 0, .ref (w 1), .int 0, .int 0, .ref (w 2), .int 0, .ref (w 3), .ref (w 4), .int 0], rfl, Or.inr ⟨by omega, rfl⟩, ⟨by rw [ht]; exact hP.sub [7] rfl, hD.sub [7] (by decide) rfl⟩⟩, hS.F ht⟩) hS.2.2 dX12_path_111
  · have f_6 := bi_n hw_r1 c_6
    refine lv_iload_n hx hb dX12_path_9 rfl (lv_at hl 2 rfl) ?_
    refine pz_i (va_runS (As := [.int x]) (rest := []) ⟨hx, hb, hml, hown, hts⟩ (k_X12_isPlace l D k s.heap x) (va_cwS 1 hts gX12_path_X12_isPlace rfl rfl rfl (by decide +kernel) ⟨Nat.le_of_ble_eq_true rfl, Nat.le_of_ble_eq_true rfl⟩) ⟨pPc_fb, pPc_go hC⟩ rfl rfl hl.1 rfl (lv_room (Nat.le_of_ble_eq_true rfl)) dX12_path_10 ⟨Nat.le_of_ble_eq_true rfl, Nat.le_of_ble_eq_true rfl⟩) hS (fun r5 locs hw_r5 hS => ?_)
    refine lv_if_eq (tgt := 35) hx hb dX12_path_13 (by decide) (fun c_13 => ?_) (fun c_13 => ?_)
    · have f_13 := bi_z hw_r5 c_13
      refine lv_iconst (v := 0) hx hb dX12_path_35 (by decide) ?_
      refine lv_istore (lv' := [(6, .int 0), (0, .ref mo), (1, .int g), (2, .int x), (3, .int y), (4, .int z), (5, .int b)]) hx hb dX12_path_36 hl (by decide) rfl (fun ls hl => ?_)
      refine lv_aload_n hx hb dX12_path_38 rfl (lv_at hl 1 rfl) ?_
      refine lv_iload hx hb dX12_path_39 (lv_at hl 0 rfl) ?_
      refine lv_if_ne (tgt := 48) hx hb dX12_path_41 (by decide) (fun c_41 => absurd c_41 (by decide)) (fun c_41 => ?_)
      refine lv_iconst (v := 1) hx hb dX12_path_44 (by decide) ?_
      refine lv_goto (tgt := 62) hx hb dX12_path_45 (by decide) ?_
      have hPc := hP.sub (ws' := [(mo, .inr (13, [.int 0, .ref (w 0), .int 0, .ref (w 1), .int 0, .int 0, .ref (w 2), .int 0, .ref (w 3), .ref (w 4), .int 0]))]) [0] rfl
      have hDc := hD.sub (ws' := [(mo, .inr (13, [.int 0, .ref (w 0), .int 0, .ref (w 1), .int 0, .int 0, .ref (w 2), .int 0, .ref (w 3), .ref (w 4), .int 0]))]) [0] (by decide) rfl
      have hFc := va_free (wc := [(mo, .inr (13, [.int 0, .ref (w 0), .int 0, .ref (w 1), .int 0, .int 0, .ref (w 2), .int 0, .ref (w 3), .ref (w 4), .int 0]))]) hD hS hA [0] rfl
      refine va_calli (va_runV (As := [.int 1]) (rest := []) ⟨hx, hb, hml, hown, hts⟩ (k_X12_fails l D k e0 s.heap.size mo w 0 1) (cwV 1 hts gX12_path_X12_fails rfl rfl rfl (by decide +kernel) ⟨Nat.le_of_ble_eq_true rfl, Nat.le_of_ble_eq_true rfl⟩) ⟨mPc_fb, va_recv hC.1 hPc (ci := 13) (q0 := 0) rfl rfl, mPc_go hC hHf hS hPc hDc hFc⟩ rfl rfl hl.1 rfl (lv_room (Nat.le_of_ble_eq_true rfl)) dX12_path_62 ⟨Nat.le_of_ble_eq_true rfl, Nat.le_of_ble_eq_true rfl⟩) hS (fun q9 _ h9 => hFc q9 h9) hFc (fun r7 u6 t H locs ht hvm hw_r7 hB hz1 hk1 hS => ?_)
      obtain ⟨hP1, hD1⟩ := hB
      rw [ht] at hP1
      obtain ⟨hP, hD⟩ := va_join (wr := [((w 0), .inl (k 5, 3, .inr (.inr (.inr (.inr (fun i => some (w (5 + i)))))))), ((w 5), .inl (k 0, 768, .inl (fun _ => 0))), ((w 6), .inl (k 0, 768, .inl (fun _ => 0))), ((w 7), .inl (k 0, 768, .inl (fun _ => 0))), ((w 1), .inl (k 6, 8, .inr (.inr (.inr (.inr (fun _ => none)))))), ((w 2), .inl (k 6, 20, .inr (.inr (.inr (.inr (fun _ => none)))))), ((w 4), .inl (k 6, 6, .inr (.inr (.inr (.inr (fun _ => none))))))]) (w1 := [(mo, .inr (13, [.int 1, .ref (w 0), .int 0, .ref (w 1), .int 0, .int 0, .ref (w 2), .int 0, .ref (w 3), .ref (w 4), .int 0]))]) hP hD [0] [1, 2, 3, 4, 5, 6, 7] rfl rfl (by decide) (by decide) hk1 hFc hP1 hD1
      have hP : va_P D vwCl [((w 0), .inl (k 5, 3, .inr (.inr (.inr (.inr (fun i => some (w (5 + i)))))))), ((w 5), .inl (k 0, 768, .inl (fun _ => 0))), ((w 6), .inl (k 0, 768, .inl (fun _ => 0))), ((w 7), .inl (k 0, 768, .inl (fun _ => 0))), ((w 1), .inl (k 6, 8, .inr (.inr (.inr (.inr (fun _ => none)))))), ((w 2), .inl (k 6, 20, .inr (.inr (.inr (.inr (fun _ => none)))))), ((w 4), .inl (k 6, 6, .inr (.inr (.inr (.inr (fun _ => none)))))), (mo, .inr (13, [.int 1, .ref (w 0), .int 0, .ref (w 1), .int 0, .int 0, .ref (w 2), .int 0, .ref (w 3), .ref (w 4), .int 0]))] H := hP
      have hD : va_D A [((w 0), .inl (k 5, 3, .inr (.inr (.inr (.inr (fun i => some (w (5 + i)))))))), ((w 5), .inl (k 0, 768, .inl (fun _ => 0))), ((w 6), .inl (k 0, 768, .inl (fun _ => 0))), ((w 7), .inl (k 0, 768, .inl (fun _ => 0))), ((w 1), .inl (k 6, 8, .inr (.inr (.inr (.inr (fun _ => none)))))), ((w 2), .inl (k 6, 20, .inr (.inr (.inr (.inr (fun _ => none)))))), ((w 4), .inl (k 6, 6, .inr (.inr (.inr (.inr (fun _ => none)))))), (mo, .inr (13, [.int 1, .ref (w 0), .int 0, .ref (w 1), .int 0, .int 0, .ref (w 2), .int 0, .ref (w 3), .ref (w 4), .int 0]))] := hD
      have e_r7 : r7 = 1 := hw_r7.trans (by decide)
      subst e_r7
      refine lv_if_eq (tgt := 72) hx hb dX12_path_65 (by decide) (fun c_65 => absurd c_65 (by decide)) (fun c_65 => ?_)
      refine lv_iconst (v := 0) hx hb dX12_path_68 (by decide) ?_
      refine lv_goto (tgt := 111) hx hb dX12_path_69 (by decide) ?_
      refine W.widen (k := 1) (n := 5) (Nat.le_of_ble_eq_true rfl) (Nat.le_of_ble_eq_true rfl) ?_
      exact W.iret (v := 0) hx hb hr (fun t ht hW => ⟨⟨0, [.int 1, .ref (w 0), .int 0, .ref (w 1), .int 0, .int 0, .ref (w 2), .int 0, .ref (w 3), .ref (w 4), .int 0], rfl, Or.inr ⟨by omega, rfl⟩, ⟨by rw [ht]; exact hP.sub [7] rfl, hD.sub [7] (by decide) rfl⟩⟩, hS.F ht⟩) hS.2.2 dX12_path_111
    · have f_13 := bi_n hw_r5 c_13
      refine lv_iload_n hx hb dX12_path_16 rfl (lv_at hl 3 rfl) ?_
      refine pz_i (va_runS (As := [.int y]) (rest := []) ⟨hx, hb, hml, hown, hts⟩ (k_X12_isName l D k s.heap y) (va_cwS 1 hts gX12_path_X12_isName rfl rfl rfl (by decide +kernel) ⟨Nat.le_of_ble_eq_true rfl, Nat.le_of_ble_eq_true rfl⟩) ⟨pPc_fb, pPc_go hC⟩ rfl rfl hl.1 rfl (lv_room (Nat.le_of_ble_eq_true rfl)) dX12_path_17 ⟨Nat.le_of_ble_eq_true rfl, Nat.le_of_ble_eq_true rfl⟩) hS (fun r9 locs hw_r9 hS => ?_)
      refine lv_if_eq (tgt := 35) hx hb dX12_path_20 (by decide) (fun c_20 => ?_) (fun c_20 => ?_)
      · have f_20 := bi_z hw_r9 c_20
        refine lv_iconst (v := 0) hx hb dX12_path_35 (by decide) ?_
        refine lv_istore (lv' := [(6, .int 0), (0, .ref mo), (1, .int g), (2, .int x), (3, .int y), (4, .int z), (5, .int b)]) hx hb dX12_path_36 hl (by decide) rfl (fun ls hl => ?_)
        refine lv_aload_n hx hb dX12_path_38 rfl (lv_at hl 1 rfl) ?_
        refine lv_iload hx hb dX12_path_39 (lv_at hl 0 rfl) ?_
        refine lv_if_ne (tgt := 48) hx hb dX12_path_41 (by decide) (fun c_41 => absurd c_41 (by decide)) (fun c_41 => ?_)
        refine lv_iconst (v := 1) hx hb dX12_path_44 (by decide) ?_
        refine lv_goto (tgt := 62) hx hb dX12_path_45 (by decide) ?_
        have hPc := hP.sub (ws' := [(mo, .inr (13, [.int 0, .ref (w 0), .int 0, .ref (w 1), .int 0, .int 0, .ref (w 2), .int 0, .ref (w 3), .ref (w 4), .int 0]))]) [0] rfl
        have hDc := hD.sub (ws' := [(mo, .inr (13, [.int 0, .ref (w 0), .int 0, .ref (w 1), .int 0, .int 0, .ref (w 2), .int 0, .ref (w 3), .ref (w 4), .int 0]))]) [0] (by decide) rfl
        have hFc := va_free (wc := [(mo, .inr (13, [.int 0, .ref (w 0), .int 0, .ref (w 1), .int 0, .int 0, .ref (w 2), .int 0, .ref (w 3), .ref (w 4), .int 0]))]) hD hS hA [0] rfl
        refine va_calli (va_runV (As := [.int 1]) (rest := []) ⟨hx, hb, hml, hown, hts⟩ (k_X12_fails l D k e0 s.heap.size mo w 0 1) (cwV 1 hts gX12_path_X12_fails rfl rfl rfl (by decide +kernel) ⟨Nat.le_of_ble_eq_true rfl, Nat.le_of_ble_eq_true rfl⟩) ⟨mPc_fb, va_recv hC.1 hPc (ci := 13) (q0 := 0) rfl rfl, mPc_go hC hHf hS hPc hDc hFc⟩ rfl rfl hl.1 rfl (lv_room (Nat.le_of_ble_eq_true rfl)) dX12_path_62 ⟨Nat.le_of_ble_eq_true rfl, Nat.le_of_ble_eq_true rfl⟩) hS (fun q9 _ h9 => hFc q9 h9) hFc (fun r11 u10 t H locs ht hvm hw_r11 hB hz1 hk1 hS => ?_)
        obtain ⟨hP1, hD1⟩ := hB
        rw [ht] at hP1
        obtain ⟨hP, hD⟩ := va_join (wr := [((w 0), .inl (k 5, 3, .inr (.inr (.inr (.inr (fun i => some (w (5 + i)))))))), ((w 5), .inl (k 0, 768, .inl (fun _ => 0))), ((w 6), .inl (k 0, 768, .inl (fun _ => 0))), ((w 7), .inl (k 0, 768, .inl (fun _ => 0))), ((w 1), .inl (k 6, 8, .inr (.inr (.inr (.inr (fun _ => none)))))), ((w 2), .inl (k 6, 20, .inr (.inr (.inr (.inr (fun _ => none)))))), ((w 4), .inl (k 6, 6, .inr (.inr (.inr (.inr (fun _ => none))))))]) (w1 := [(mo, .inr (13, [.int 1, .ref (w 0), .int 0, .ref (w 1), .int 0, .int 0, .ref (w 2), .int 0, .ref (w 3), .ref (w 4), .int 0]))]) hP hD [0] [1, 2, 3, 4, 5, 6, 7] rfl rfl (by decide) (by decide) hk1 hFc hP1 hD1
        have hP : va_P D vwCl [((w 0), .inl (k 5, 3, .inr (.inr (.inr (.inr (fun i => some (w (5 + i)))))))), ((w 5), .inl (k 0, 768, .inl (fun _ => 0))), ((w 6), .inl (k 0, 768, .inl (fun _ => 0))), ((w 7), .inl (k 0, 768, .inl (fun _ => 0))), ((w 1), .inl (k 6, 8, .inr (.inr (.inr (.inr (fun _ => none)))))), ((w 2), .inl (k 6, 20, .inr (.inr (.inr (.inr (fun _ => none)))))), ((w 4), .inl (k 6, 6, .inr (.inr (.inr (.inr (fun _ => none)))))), (mo, .inr (13, [.int 1, .ref (w 0), .int 0, .ref (w 1), .int 0, .int 0, .ref (w 2), .int 0, .ref (w 3), .ref (w 4), .int 0]))] H := hP
        have hD : va_D A [((w 0), .inl (k 5, 3, .inr (.inr (.inr (.inr (fun i => some (w (5 + i)))))))), ((w 5), .inl (k 0, 768, .inl (fun _ => 0))), ((w 6), .inl (k 0, 768, .inl (fun _ => 0))), ((w 7), .inl (k 0, 768, .inl (fun _ => 0))), ((w 1), .inl (k 6, 8, .inr (.inr (.inr (.inr (fun _ => none)))))), ((w 2), .inl (k 6, 20, .inr (.inr (.inr (.inr (fun _ => none)))))), ((w 4), .inl (k 6, 6, .inr (.inr (.inr (.inr (fun _ => none)))))), (mo, .inr (13, [.int 1, .ref (w 0), .int 0, .ref (w 1), .int 0, .int 0, .ref (w 2), .int 0, .ref (w 3), .ref (w 4), .int 0]))] := hD
        have e_r11 : r11 = 1 := hw_r11.trans (by decide)
        subst e_r11
        refine lv_if_eq (tgt := 72) hx hb dX12_path_65 (by decide) (fun c_65 => absurd c_65 (by decide)) (fun c_65 => ?_)
        refine lv_iconst (v := 0) hx hb dX12_path_68 (by decide) ?_
        refine lv_goto (tgt := 111) hx hb dX12_path_69 (by decide) ?_
        refine W.widen (k := 1) (n := 5) (Nat.le_of_ble_eq_true rfl) (Nat.le_of_ble_eq_true rfl) ?_
        exact W.iret (v := 0) hx hb hr (fun t ht hW => ⟨⟨0, [.int 1, .ref (w 0), .int 0, .ref (w 1), .int 0, .int 0, .ref (w 2), .int 0, .ref (w 3), .ref (w 4), .int 0], rfl, Or.inr ⟨by omega, rfl⟩, ⟨by rw [ht]; exact hP.sub [7] rfl, hD.sub [7] (by decide) rfl⟩⟩, hS.F ht⟩) hS.2.2 dX12_path_111
      · have f_20 := bi_n hw_r9 c_20
        refine lv_iload hx hb dX12_path_23 (lv_at hl 4 rfl) ?_
        refine pz_i (va_runS (As := [.int z]) (rest := []) ⟨hx, hb, hml, hown, hts⟩ (k_X12_isPlace l D k s.heap z) (va_cwS 1 hts gX12_path_X12_isPlace rfl rfl rfl (by decide +kernel) ⟨Nat.le_of_ble_eq_true rfl, Nat.le_of_ble_eq_true rfl⟩) ⟨pPc_fb, pPc_go hC⟩ rfl rfl hl.1 rfl (lv_room (Nat.le_of_ble_eq_true rfl)) dX12_path_25 ⟨Nat.le_of_ble_eq_true rfl, Nat.le_of_ble_eq_true rfl⟩) hS (fun r13 locs hw_r13 hS => ?_)
        refine lv_if_eq (tgt := 35) hx hb dX12_path_28 (by decide) (fun c_28 => ?_) (fun c_28 => ?_)
        · have f_28 := bi_z hw_r13 c_28
          refine lv_iconst (v := 0) hx hb dX12_path_35 (by decide) ?_
          refine lv_istore (lv' := [(6, .int 0), (0, .ref mo), (1, .int g), (2, .int x), (3, .int y), (4, .int z), (5, .int b)]) hx hb dX12_path_36 hl (by decide) rfl (fun ls hl => ?_)
          refine lv_aload_n hx hb dX12_path_38 rfl (lv_at hl 1 rfl) ?_
          refine lv_iload hx hb dX12_path_39 (lv_at hl 0 rfl) ?_
          refine lv_if_ne (tgt := 48) hx hb dX12_path_41 (by decide) (fun c_41 => absurd c_41 (by decide)) (fun c_41 => ?_)
          refine lv_iconst (v := 1) hx hb dX12_path_44 (by decide) ?_
          refine lv_goto (tgt := 62) hx hb dX12_path_45 (by decide) ?_
          have hPc := hP.sub (ws' := [(mo, .inr (13, [.int 0, .ref (w 0), .int 0, .ref (w 1), .int 0, .int 0, .ref (w 2), .int 0, .ref (w 3), .ref (w 4), .int 0]))]) [0] rfl
          have hDc := hD.sub (ws' := [(mo, .inr (13, [.int 0, .ref (w 0), .int 0, .ref (w 1), .int 0, .int 0, .ref (w 2), .int 0, .ref (w 3), .ref (w 4), .int 0]))]) [0] (by decide) rfl
          have hFc := va_free (wc := [(mo, .inr (13, [.int 0, .ref (w 0), .int 0, .ref (w 1), .int 0, .int 0, .ref (w 2), .int 0, .ref (w 3), .ref (w 4), .int 0]))]) hD hS hA [0] rfl
          refine va_calli (va_runV (As := [.int 1]) (rest := []) ⟨hx, hb, hml, hown, hts⟩ (k_X12_fails l D k e0 s.heap.size mo w 0 1) (cwV 1 hts gX12_path_X12_fails rfl rfl rfl (by decide +kernel) ⟨Nat.le_of_ble_eq_true rfl, Nat.le_of_ble_eq_true rfl⟩) ⟨mPc_fb, va_recv hC.1 hPc (ci := 13) (q0 := 0) rfl rfl, mPc_go hC hHf hS hPc hDc hFc⟩ rfl rfl hl.1 rfl (lv_room (Nat.le_of_ble_eq_true rfl)) dX12_path_62 ⟨Nat.le_of_ble_eq_true rfl, Nat.le_of_ble_eq_true rfl⟩) hS (fun q9 _ h9 => hFc q9 h9) hFc (fun r15 u14 t H locs ht hvm hw_r15 hB hz1 hk1 hS => ?_)
          obtain ⟨hP1, hD1⟩ := hB
          rw [ht] at hP1
          obtain ⟨hP, hD⟩ := va_join (wr := [((w 0), .inl (k 5, 3, .inr (.inr (.inr (.inr (fun i => some (w (5 + i)))))))), ((w 5), .inl (k 0, 768, .inl (fun _ => 0))), ((w 6), .inl (k 0, 768, .inl (fun _ => 0))), ((w 7), .inl (k 0, 768, .inl (fun _ => 0))), ((w 1), .inl (k 6, 8, .inr (.inr (.inr (.inr (fun _ => none)))))), ((w 2), .inl (k 6, 20, .inr (.inr (.inr (.inr (fun _ => none)))))), ((w 4), .inl (k 6, 6, .inr (.inr (.inr (.inr (fun _ => none))))))]) (w1 := [(mo, .inr (13, [.int 1, .ref (w 0), .int 0, .ref (w 1), .int 0, .int 0, .ref (w 2), .int 0, .ref (w 3), .ref (w 4), .int 0]))]) hP hD [0] [1, 2, 3, 4, 5, 6, 7] rfl rfl (by decide) (by decide) hk1 hFc hP1 hD1
          have hP : va_P D vwCl [((w 0), .inl (k 5, 3, .inr (.inr (.inr (.inr (fun i => some (w (5 + i)))))))), ((w 5), .inl (k 0, 768, .inl (fun _ => 0))), ((w 6), .inl (k 0, 768, .inl (fun _ => 0))), ((w 7), .inl (k 0, 768, .inl (fun _ => 0))), ((w 1), .inl (k 6, 8, .inr (.inr (.inr (.inr (fun _ => none)))))), ((w 2), .inl (k 6, 20, .inr (.inr (.inr (.inr (fun _ => none)))))), ((w 4), .inl (k 6, 6, .inr (.inr (.inr (.inr (fun _ => none)))))), (mo, .inr (13, [.int 1, .ref (w 0), .int 0, .ref (w 1), .int 0, .int 0, .ref (w 2), .int 0, .ref (w 3), .ref (w 4), .int 0]))] H := hP
          have hD : va_D A [((w 0), .inl (k 5, 3, .inr (.inr (.inr (.inr (fun i => some (w (5 + i)))))))), ((w 5), .inl (k 0, 768, .inl (fun _ => 0))), ((w 6), .inl (k 0, 768, .inl (fun _ => 0))), ((w 7), .inl (k 0, 768, .inl (fun _ => 0))), ((w 1), .inl (k 6, 8, .inr (.inr (.inr (.inr (fun _ => none)))))), ((w 2), .inl (k 6, 20, .inr (.inr (.inr (.inr (fun _ => none)))))), ((w 4), .inl (k 6, 6, .inr (.inr (.inr (.inr (fun _ => none)))))), (mo, .inr (13, [.int 1, .ref (w 0), .int 0, .ref (w 1), .int 0, .int 0, .ref (w 2), .int 0, .ref (w 3), .ref (w 4), .int 0]))] := hD
          have e_r15 : r15 = 1 := hw_r15.trans (by decide)
          subst e_r15
          refine lv_if_eq (tgt := 72) hx hb dX12_path_65 (by decide) (fun c_65 => absurd c_65 (by decide)) (fun c_65 => ?_)
          refine lv_iconst (v := 0) hx hb dX12_path_68 (by decide) ?_
          refine lv_goto (tgt := 111) hx hb dX12_path_69 (by decide) ?_
          refine W.widen (k := 1) (n := 5) (Nat.le_of_ble_eq_true rfl) (Nat.le_of_ble_eq_true rfl) ?_
          exact W.iret (v := 0) hx hb hr (fun t ht hW => ⟨⟨0, [.int 1, .ref (w 0), .int 0, .ref (w 1), .int 0, .int 0, .ref (w 2), .int 0, .ref (w 3), .ref (w 4), .int 0], rfl, Or.inr ⟨by omega, rfl⟩, ⟨by rw [ht]; exact hP.sub [7] rfl, hD.sub [7] (by decide) rfl⟩⟩, hS.F ht⟩) hS.2.2 dX12_path_111
        · have f_28 := bi_n hw_r13 c_28
          refine lv_iconst (v := 1) hx hb dX12_path_31 (by decide) ?_
          refine lv_goto (tgt := 36) hx hb dX12_path_32 (by decide) ?_
          refine lv_istore (lv' := [(6, .int 1), (0, .ref mo), (1, .int g), (2, .int x), (3, .int y), (4, .int z), (5, .int b)]) hx hb dX12_path_36 hl (by decide) rfl (fun ls hl => ?_)
          refine lv_aload_n hx hb dX12_path_38 rfl (lv_at hl 1 rfl) ?_
          refine lv_iload hx hb dX12_path_39 (lv_at hl 0 rfl) ?_
          refine lv_if_ne (tgt := 48) hx hb dX12_path_41 (by decide) (fun c_41 => ?_) (fun c_41 => absurd c_41 (by decide))
          refine lv_aload_n hx hb dX12_path_48 rfl (lv_at hl 1 rfl) ?_
          refine va_get (D := D) (ci := 13) (v := .int 0) (C := RX12) (T := TX12) (N := 11) hx hb hts (by decide +kernel) hown hC.1 hP 0 rfl rfl 7 (by decide) (hts (.fieldLink RX12 91 "TriplegarthModel" "queryMany" "I") (by decide +kernel)) (fun _ h9 => h9) rfl dX12_path_49 ?_
          refine lv_bipush (v := 20) hx hb dX12_path_52 (by decide) ?_
          refine lv_icmp_ne (tgt := 61) hx hb dX12_path_54 (by decide) (fun c_54 => ?_) (fun c_54 => absurd c_54 (by decide))
          refine lv_iconst (v := 0) hx hb dX12_path_61 (by decide) ?_
          have hPc := hP.sub (ws' := [(mo, .inr (13, [.int 0, .ref (w 0), .int 0, .ref (w 1), .int 0, .int 0, .ref (w 2), .int 0, .ref (w 3), .ref (w 4), .int 0]))]) [0] rfl
          have hDc := hD.sub (ws' := [(mo, .inr (13, [.int 0, .ref (w 0), .int 0, .ref (w 1), .int 0, .int 0, .ref (w 2), .int 0, .ref (w 3), .ref (w 4), .int 0]))]) [0] (by decide) rfl
          have hFc := va_free (wc := [(mo, .inr (13, [.int 0, .ref (w 0), .int 0, .ref (w 1), .int 0, .int 0, .ref (w 2), .int 0, .ref (w 3), .ref (w 4), .int 0]))]) hD hS hA [0] rfl
          refine va_calli (va_runV (As := [.int 0]) (rest := []) ⟨hx, hb, hml, hown, hts⟩ (k_X12_fails l D k e0 s.heap.size mo w 0 0) (cwV 1 hts gX12_path_X12_fails rfl rfl rfl (by decide +kernel) ⟨Nat.le_of_ble_eq_true rfl, Nat.le_of_ble_eq_true rfl⟩) ⟨mPc_fb, va_recv hC.1 hPc (ci := 13) (q0 := 0) rfl rfl, mPc_go hC hHf hS hPc hDc hFc⟩ rfl rfl hl.1 rfl (lv_room (Nat.le_of_ble_eq_true rfl)) dX12_path_62 ⟨Nat.le_of_ble_eq_true rfl, Nat.le_of_ble_eq_true rfl⟩) hS (fun q9 _ h9 => hFc q9 h9) hFc (fun r18 u17 t H locs ht hvm hw_r18 hB hz1 hk1 hS => ?_)
          obtain ⟨hP1, hD1⟩ := hB
          rw [ht] at hP1
          obtain ⟨hP, hD⟩ := va_join (wr := [((w 0), .inl (k 5, 3, .inr (.inr (.inr (.inr (fun i => some (w (5 + i)))))))), ((w 5), .inl (k 0, 768, .inl (fun _ => 0))), ((w 6), .inl (k 0, 768, .inl (fun _ => 0))), ((w 7), .inl (k 0, 768, .inl (fun _ => 0))), ((w 1), .inl (k 6, 8, .inr (.inr (.inr (.inr (fun _ => none)))))), ((w 2), .inl (k 6, 20, .inr (.inr (.inr (.inr (fun _ => none)))))), ((w 4), .inl (k 6, 6, .inr (.inr (.inr (.inr (fun _ => none))))))]) (w1 := [(mo, .inr (13, [.int 0, .ref (w 0), .int 0, .ref (w 1), .int 0, .int 0, .ref (w 2), .int 0, .ref (w 3), .ref (w 4), .int 0]))]) hP hD [0] [1, 2, 3, 4, 5, 6, 7] rfl rfl (by decide) (by decide) hk1 hFc hP1 hD1
          have hP : va_P D vwCl [((w 0), .inl (k 5, 3, .inr (.inr (.inr (.inr (fun i => some (w (5 + i)))))))), ((w 5), .inl (k 0, 768, .inl (fun _ => 0))), ((w 6), .inl (k 0, 768, .inl (fun _ => 0))), ((w 7), .inl (k 0, 768, .inl (fun _ => 0))), ((w 1), .inl (k 6, 8, .inr (.inr (.inr (.inr (fun _ => none)))))), ((w 2), .inl (k 6, 20, .inr (.inr (.inr (.inr (fun _ => none)))))), ((w 4), .inl (k 6, 6, .inr (.inr (.inr (.inr (fun _ => none)))))), (mo, .inr (13, [.int 0, .ref (w 0), .int 0, .ref (w 1), .int 0, .int 0, .ref (w 2), .int 0, .ref (w 3), .ref (w 4), .int 0]))] H := hP
          have hD : va_D A [((w 0), .inl (k 5, 3, .inr (.inr (.inr (.inr (fun i => some (w (5 + i)))))))), ((w 5), .inl (k 0, 768, .inl (fun _ => 0))), ((w 6), .inl (k 0, 768, .inl (fun _ => 0))), ((w 7), .inl (k 0, 768, .inl (fun _ => 0))), ((w 1), .inl (k 6, 8, .inr (.inr (.inr (.inr (fun _ => none)))))), ((w 2), .inl (k 6, 20, .inr (.inr (.inr (.inr (fun _ => none)))))), ((w 4), .inl (k 6, 6, .inr (.inr (.inr (.inr (fun _ => none)))))), (mo, .inr (13, [.int 0, .ref (w 0), .int 0, .ref (w 1), .int 0, .int 0, .ref (w 2), .int 0, .ref (w 3), .ref (w 4), .int 0]))] := hD
          have e_r18 : r18 = 0 := hw_r18.trans (by decide)
          subst e_r18
          refine lv_if_eq (tgt := 72) hx hb dX12_path_65 (by decide) (fun c_65 => ?_) (fun c_65 => absurd (by decide) c_65)
          refine lv_aload_n hx hb dX12_path_72 rfl (lv_at hl 1 rfl) ?_
          refine lv_iconst (v := 5) hx hb dX12_path_73 (by decide) ?_
          refine w_newa (atype := .int) hx hb (hts (.arrayClass .int) (by decide +kernel)) (ty := .int) rfl 2 rfl hC.1 hP hD hS hA (a0 := (5, .inl (fun _ => 0))) (N' := 5) (fun _ => rfl) (by decide) (by decide) (Nat.le_of_ble_eq_true rfl) (Nat.le_of_ble_eq_true rfl) (Nat.le_of_ble_eq_true rfl) dX12_path_74 (fun q74 H hP hD hS => ?_)
          have hP : va_P D vwCl [((w 0), .inl (k 5, 3, .inr (.inr (.inr (.inr (fun i => some (w (5 + i)))))))), ((w 5), .inl (k 0, 768, .inl (fun _ => 0))), ((w 6), .inl (k 0, 768, .inl (fun _ => 0))), ((w 7), .inl (k 0, 768, .inl (fun _ => 0))), ((w 1), .inl (k 6, 8, .inr (.inr (.inr (.inr (fun _ => none)))))), ((w 2), .inl (k 6, 20, .inr (.inr (.inr (.inr (fun _ => none)))))), ((w 4), .inl (k 6, 6, .inr (.inr (.inr (.inr (fun _ => none)))))), (mo, .inr (13, [.int 0, .ref (w 0), .int 0, .ref (w 1), .int 0, .int 0, .ref (w 2), .int 0, .ref (w 3), .ref (w 4), .int 0])), (q74, .inl (k 2, 5, .inl (fun _ => 0)))] H := hP
          have hD : va_D A [((w 0), .inl (k 5, 3, .inr (.inr (.inr (.inr (fun i => some (w (5 + i)))))))), ((w 5), .inl (k 0, 768, .inl (fun _ => 0))), ((w 6), .inl (k 0, 768, .inl (fun _ => 0))), ((w 7), .inl (k 0, 768, .inl (fun _ => 0))), ((w 1), .inl (k 6, 8, .inr (.inr (.inr (.inr (fun _ => none)))))), ((w 2), .inl (k 6, 20, .inr (.inr (.inr (.inr (fun _ => none)))))), ((w 4), .inl (k 6, 6, .inr (.inr (.inr (.inr (fun _ => none)))))), (mo, .inr (13, [.int 0, .ref (w 0), .int 0, .ref (w 1), .int 0, .int 0, .ref (w 2), .int 0, .ref (w 3), .ref (w 4), .int 0])), (q74, .inl (k 2, 5, .inl (fun _ => 0)))] := hD
          refine lv_dup hx hb dX12_path_76 rfl ?_
          refine lv_iconst (v := 0) hx hb dX12_path_77 (by decide) ?_
          refine lv_iload hx hb dX12_path_78 (lv_at hl 6 rfl) ?_
          refine lv_if_eq (tgt := 88) hx hb dX12_path_80 (by decide) (fun c_80 => ?_) (fun c_80 => ?_)
          · have g_80 : b.toInt = 0 := congrArg Int32.toInt c_80
            refine lv_bipush (v := 43) hx hb dX12_path_88 (by decide) ?_
            refine va_iast hx hb hC.1 hP hD hS 8 2 rfl rfl (vp_in_nI (n := 0) (N := 5) (by decide) (by decide)) dX12_path_90 (fun H locs hP hD hS => ?_)
            have hP : va_P D vwCl [((w 0), .inl (k 5, 3, .inr (.inr (.inr (.inr (fun i => some (w (5 + i)))))))), ((w 5), .inl (k 0, 768, .inl (fun _ => 0))), ((w 6), .inl (k 0, 768, .inl (fun _ => 0))), ((w 7), .inl (k 0, 768, .inl (fun _ => 0))), ((w 1), .inl (k 6, 8, .inr (.inr (.inr (.inr (fun _ => none)))))), ((w 2), .inl (k 6, 20, .inr (.inr (.inr (.inr (fun _ => none)))))), ((w 4), .inl (k 6, 6, .inr (.inr (.inr (.inr (fun _ => none)))))), (mo, .inr (13, [.int 0, .ref (w 0), .int 0, .ref (w 1), .int 0, .int 0, .ref (w 2), .int 0, .ref (w 3), .ref (w 4), .int 0])), (q74, .inl (k 2, 5, .inl (upd (fun _ => 0) (0 : Int32).toNatClampNeg 43)))] H := hP
            have hD : va_D A [((w 0), .inl (k 5, 3, .inr (.inr (.inr (.inr (fun i => some (w (5 + i)))))))), ((w 5), .inl (k 0, 768, .inl (fun _ => 0))), ((w 6), .inl (k 0, 768, .inl (fun _ => 0))), ((w 7), .inl (k 0, 768, .inl (fun _ => 0))), ((w 1), .inl (k 6, 8, .inr (.inr (.inr (.inr (fun _ => none)))))), ((w 2), .inl (k 6, 20, .inr (.inr (.inr (.inr (fun _ => none)))))), ((w 4), .inl (k 6, 6, .inr (.inr (.inr (.inr (fun _ => none)))))), (mo, .inr (13, [.int 0, .ref (w 0), .int 0, .ref (w 1), .int 0, .int 0, .ref (w 2), .int 0, .ref (w 3), .ref (w 4), .int 0])), (q74, .inl (k 2, 5, .inl (upd (fun _ => 0) (0 : Int32).toNatClampNeg 43)))] := hD
            refine lv_dup hx hb dX12_path_91 rfl ?_
            refine lv_iconst (v := 1) hx hb dX12_path_92 (by decide) ?_
            refine lv_iload_n hx hb dX12_path_93 rfl (lv_at hl 2 rfl) ?_
            refine va_iast hx hb hC.1 hP hD hS 8 2 rfl rfl (vp_in_nI (n := 1) (N := 5) (by decide) (by decide)) dX12_path_94 (fun H locs hP hD hS => ?_)
            have hP : va_P D vwCl [((w 0), .inl (k 5, 3, .inr (.inr (.inr (.inr (fun i => some (w (5 + i)))))))), ((w 5), .inl (k 0, 768, .inl (fun _ => 0))), ((w 6), .inl (k 0, 768, .inl (fun _ => 0))), ((w 7), .inl (k 0, 768, .inl (fun _ => 0))), ((w 1), .inl (k 6, 8, .inr (.inr (.inr (.inr (fun _ => none)))))), ((w 2), .inl (k 6, 20, .inr (.inr (.inr (.inr (fun _ => none)))))), ((w 4), .inl (k 6, 6, .inr (.inr (.inr (.inr (fun _ => none)))))), (mo, .inr (13, [.int 0, .ref (w 0), .int 0, .ref (w 1), .int 0, .int 0, .ref (w 2), .int 0, .ref (w 3), .ref (w 4), .int 0])), (q74, .inl (k 2, 5, .inl (upd (upd (fun _ => 0) (0 : Int32).toNatClampNeg 43) (1 : Int32).toNatClampNeg g)))] H := hP
            have hD : va_D A [((w 0), .inl (k 5, 3, .inr (.inr (.inr (.inr (fun i => some (w (5 + i)))))))), ((w 5), .inl (k 0, 768, .inl (fun _ => 0))), ((w 6), .inl (k 0, 768, .inl (fun _ => 0))), ((w 7), .inl (k 0, 768, .inl (fun _ => 0))), ((w 1), .inl (k 6, 8, .inr (.inr (.inr (.inr (fun _ => none)))))), ((w 2), .inl (k 6, 20, .inr (.inr (.inr (.inr (fun _ => none)))))), ((w 4), .inl (k 6, 6, .inr (.inr (.inr (.inr (fun _ => none)))))), (mo, .inr (13, [.int 0, .ref (w 0), .int 0, .ref (w 1), .int 0, .int 0, .ref (w 2), .int 0, .ref (w 3), .ref (w 4), .int 0])), (q74, .inl (k 2, 5, .inl (upd (upd (fun _ => 0) (0 : Int32).toNatClampNeg 43) (1 : Int32).toNatClampNeg g)))] := hD
            refine lv_dup hx hb dX12_path_95 rfl ?_
            refine lv_iconst (v := 2) hx hb dX12_path_96 (by decide) ?_
            refine lv_iload_n hx hb dX12_path_97 rfl (lv_at hl 3 rfl) ?_
            refine va_iast hx hb hC.1 hP hD hS 8 2 rfl rfl (vp_in_nI (n := 2) (N := 5) (by decide) (by decide)) dX12_path_98 (fun H locs hP hD hS => ?_)
            have hP : va_P D vwCl [((w 0), .inl (k 5, 3, .inr (.inr (.inr (.inr (fun i => some (w (5 + i)))))))), ((w 5), .inl (k 0, 768, .inl (fun _ => 0))), ((w 6), .inl (k 0, 768, .inl (fun _ => 0))), ((w 7), .inl (k 0, 768, .inl (fun _ => 0))), ((w 1), .inl (k 6, 8, .inr (.inr (.inr (.inr (fun _ => none)))))), ((w 2), .inl (k 6, 20, .inr (.inr (.inr (.inr (fun _ => none)))))), ((w 4), .inl (k 6, 6, .inr (.inr (.inr (.inr (fun _ => none)))))), (mo, .inr (13, [.int 0, .ref (w 0), .int 0, .ref (w 1), .int 0, .int 0, .ref (w 2), .int 0, .ref (w 3), .ref (w 4), .int 0])), (q74, .inl (k 2, 5, .inl (upd (upd (upd (fun _ => 0) (0 : Int32).toNatClampNeg 43) (1 : Int32).toNatClampNeg g) (2 : Int32).toNatClampNeg x)))] H := hP
            have hD : va_D A [((w 0), .inl (k 5, 3, .inr (.inr (.inr (.inr (fun i => some (w (5 + i)))))))), ((w 5), .inl (k 0, 768, .inl (fun _ => 0))), ((w 6), .inl (k 0, 768, .inl (fun _ => 0))), ((w 7), .inl (k 0, 768, .inl (fun _ => 0))), ((w 1), .inl (k 6, 8, .inr (.inr (.inr (.inr (fun _ => none)))))), ((w 2), .inl (k 6, 20, .inr (.inr (.inr (.inr (fun _ => none)))))), ((w 4), .inl (k 6, 6, .inr (.inr (.inr (.inr (fun _ => none)))))), (mo, .inr (13, [.int 0, .ref (w 0), .int 0, .ref (w 1), .int 0, .int 0, .ref (w 2), .int 0, .ref (w 3), .ref (w 4), .int 0])), (q74, .inl (k 2, 5, .inl (upd (upd (upd (fun _ => 0) (0 : Int32).toNatClampNeg 43) (1 : Int32).toNatClampNeg g) (2 : Int32).toNatClampNeg x)))] := hD
            refine lv_dup hx hb dX12_path_99 rfl ?_
            refine lv_iconst (v := 3) hx hb dX12_path_100 (by decide) ?_
            refine lv_iload_n hx hb dX12_path_101 rfl (lv_at hl 4 rfl) ?_
            refine va_iast hx hb hC.1 hP hD hS 8 2 rfl rfl (vp_in_nI (n := 3) (N := 5) (by decide) (by decide)) dX12_path_102 (fun H locs hP hD hS => ?_)
            have hP : va_P D vwCl [((w 0), .inl (k 5, 3, .inr (.inr (.inr (.inr (fun i => some (w (5 + i)))))))), ((w 5), .inl (k 0, 768, .inl (fun _ => 0))), ((w 6), .inl (k 0, 768, .inl (fun _ => 0))), ((w 7), .inl (k 0, 768, .inl (fun _ => 0))), ((w 1), .inl (k 6, 8, .inr (.inr (.inr (.inr (fun _ => none)))))), ((w 2), .inl (k 6, 20, .inr (.inr (.inr (.inr (fun _ => none)))))), ((w 4), .inl (k 6, 6, .inr (.inr (.inr (.inr (fun _ => none)))))), (mo, .inr (13, [.int 0, .ref (w 0), .int 0, .ref (w 1), .int 0, .int 0, .ref (w 2), .int 0, .ref (w 3), .ref (w 4), .int 0])), (q74, .inl (k 2, 5, .inl (upd (upd (upd (upd (fun _ => 0) (0 : Int32).toNatClampNeg 43) (1 : Int32).toNatClampNeg g) (2 : Int32).toNatClampNeg x) (3 : Int32).toNatClampNeg y)))] H := hP
            have hD : va_D A [((w 0), .inl (k 5, 3, .inr (.inr (.inr (.inr (fun i => some (w (5 + i)))))))), ((w 5), .inl (k 0, 768, .inl (fun _ => 0))), ((w 6), .inl (k 0, 768, .inl (fun _ => 0))), ((w 7), .inl (k 0, 768, .inl (fun _ => 0))), ((w 1), .inl (k 6, 8, .inr (.inr (.inr (.inr (fun _ => none)))))), ((w 2), .inl (k 6, 20, .inr (.inr (.inr (.inr (fun _ => none)))))), ((w 4), .inl (k 6, 6, .inr (.inr (.inr (.inr (fun _ => none)))))), (mo, .inr (13, [.int 0, .ref (w 0), .int 0, .ref (w 1), .int 0, .int 0, .ref (w 2), .int 0, .ref (w 3), .ref (w 4), .int 0])), (q74, .inl (k 2, 5, .inl (upd (upd (upd (upd (fun _ => 0) (0 : Int32).toNatClampNeg 43) (1 : Int32).toNatClampNeg g) (2 : Int32).toNatClampNeg x) (3 : Int32).toNatClampNeg y)))] := hD
            refine lv_dup hx hb dX12_path_103 rfl ?_
            refine lv_iconst (v := 4) hx hb dX12_path_104 (by decide) ?_
            refine lv_iload hx hb dX12_path_105 (lv_at hl 5 rfl) ?_
            refine va_iast hx hb hC.1 hP hD hS 8 2 rfl rfl (vp_in_nI (n := 4) (N := 5) (by decide) (by decide)) dX12_path_107 (fun H locs hP hD hS => ?_)
            have hP : va_P D vwCl [((w 0), .inl (k 5, 3, .inr (.inr (.inr (.inr (fun i => some (w (5 + i)))))))), ((w 5), .inl (k 0, 768, .inl (fun _ => 0))), ((w 6), .inl (k 0, 768, .inl (fun _ => 0))), ((w 7), .inl (k 0, 768, .inl (fun _ => 0))), ((w 1), .inl (k 6, 8, .inr (.inr (.inr (.inr (fun _ => none)))))), ((w 2), .inl (k 6, 20, .inr (.inr (.inr (.inr (fun _ => none)))))), ((w 4), .inl (k 6, 6, .inr (.inr (.inr (.inr (fun _ => none)))))), (mo, .inr (13, [.int 0, .ref (w 0), .int 0, .ref (w 1), .int 0, .int 0, .ref (w 2), .int 0, .ref (w 3), .ref (w 4), .int 0])), (q74, .inl (k 2, 5, .inl (upd (upd (upd (upd (upd (fun _ => 0) (0 : Int32).toNatClampNeg 43) (1 : Int32).toNatClampNeg g) (2 : Int32).toNatClampNeg x) (3 : Int32).toNatClampNeg y) (4 : Int32).toNatClampNeg z)))] H := hP
            have hD : va_D A [((w 0), .inl (k 5, 3, .inr (.inr (.inr (.inr (fun i => some (w (5 + i)))))))), ((w 5), .inl (k 0, 768, .inl (fun _ => 0))), ((w 6), .inl (k 0, 768, .inl (fun _ => 0))), ((w 7), .inl (k 0, 768, .inl (fun _ => 0))), ((w 1), .inl (k 6, 8, .inr (.inr (.inr (.inr (fun _ => none)))))), ((w 2), .inl (k 6, 20, .inr (.inr (.inr (.inr (fun _ => none)))))), ((w 4), .inl (k 6, 6, .inr (.inr (.inr (.inr (fun _ => none)))))), (mo, .inr (13, [.int 0, .ref (w 0), .int 0, .ref (w 1), .int 0, .int 0, .ref (w 2), .int 0, .ref (w 3), .ref (w 4), .int 0])), (q74, .inl (k 2, 5, .inl (upd (upd (upd (upd (upd (fun _ => 0) (0 : Int32).toNatClampNeg 43) (1 : Int32).toNatClampNeg g) (2 : Int32).toNatClampNeg x) (3 : Int32).toNatClampNeg y) (4 : Int32).toNatClampNeg z)))] := hD
            have hPc := hP.sub (ws' := [(mo, .inr (13, [.int 0, .ref (w 0), .int 0, .ref (w 1), .int 0, .int 0, .ref (w 2), .int 0, .ref (w 3), .ref (w 4), .int 0])), ((w 2), .inl (k 6, 20, .inr (.inr (.inr (.inr (fun _ => none)))))), (q74, .inl (k 2, 5, .inl (upd (upd (upd (upd (upd (fun _ => 0) (0 : Int32).toNatClampNeg 43) (1 : Int32).toNatClampNeg g) (2 : Int32).toNatClampNeg x) (3 : Int32).toNatClampNeg y) (4 : Int32).toNatClampNeg z)))]) [7, 5, 8] rfl
            have hDc := hD.sub (ws' := [(mo, .inr (13, [.int 0, .ref (w 0), .int 0, .ref (w 1), .int 0, .int 0, .ref (w 2), .int 0, .ref (w 3), .ref (w 4), .int 0])), ((w 2), .inl (k 6, 20, .inr (.inr (.inr (.inr (fun _ => none)))))), (q74, .inl (k 2, 5, .inl (upd (upd (upd (upd (upd (fun _ => 0) (0 : Int32).toNatClampNeg 43) (1 : Int32).toNatClampNeg g) (2 : Int32).toNatClampNeg x) (3 : Int32).toNatClampNeg y) (4 : Int32).toNatClampNeg z)))]) [7, 5, 8] (by decide) rfl
            have hFc := va_free (wc := [(mo, .inr (13, [.int 0, .ref (w 0), .int 0, .ref (w 1), .int 0, .int 0, .ref (w 2), .int 0, .ref (w 3), .ref (w 4), .int 0])), ((w 2), .inl (k 6, 20, .inr (.inr (.inr (.inr (fun _ => none)))))), (q74, .inl (k 2, 5, .inl (upd (upd (upd (upd (upd (fun _ => 0) (0 : Int32).toNatClampNeg 43) (1 : Int32).toNatClampNeg g) (2 : Int32).toNatClampNeg x) (3 : Int32).toNatClampNeg y) (4 : Int32).toNatClampNeg z)))]) hD hS hA [7, 5, 8] rfl
            refine va_calli (va_runV (As := [.ref q74]) (rest := []) ⟨hx, hb, hml, hown, hts⟩ (k_X12_made l D k e0 H.size mo w q74 (5, .inl (upd (upd (upd (upd (upd (fun _ => 0) (0 : Int32).toNatClampNeg 43) (1 : Int32).toNatClampNeg g) (2 : Int32).toNatClampNeg x) (3 : Int32).toNatClampNeg y) (4 : Int32).toNatClampNeg z))) (cwV 1 hts gX12_path_X12_made rfl rfl rfl (by decide +kernel) ⟨Nat.le_of_ble_eq_true rfl, Nat.le_of_ble_eq_true rfl⟩) ⟨mPc_fb, va_recv hC.1 hPc (ci := 13) (q0 := 0) rfl rfl, mPc_go hC hHf hS hPc hDc hFc⟩ rfl rfl hl.1 rfl (lv_room (Nat.le_of_ble_eq_true rfl)) dX12_path_108 ⟨Nat.le_of_ble_eq_true rfl, Nat.le_of_ble_eq_true rfl⟩) hS (fun q9 _ h9 => hFc q9 h9) hFc (fun r21 u20 t H locs ht hvm hw_r21 hB hz1 hk1 hS => ?_)
            obtain ⟨hP1, hD1⟩ := hB
            rw [ht] at hP1
            obtain ⟨hP, hD⟩ := va_join (wr := [((w 0), .inl (k 5, 3, .inr (.inr (.inr (.inr (fun i => some (w (5 + i)))))))), ((w 5), .inl (k 0, 768, .inl (fun _ => 0))), ((w 6), .inl (k 0, 768, .inl (fun _ => 0))), ((w 7), .inl (k 0, 768, .inl (fun _ => 0))), ((w 1), .inl (k 6, 8, .inr (.inr (.inr (.inr (fun _ => none)))))), ((w 4), .inl (k 6, 6, .inr (.inr (.inr (.inr (fun _ => none))))))]) (w1 := [(mo, .inr (13, u20))]) hP hD [7, 5, 8] [0, 1, 2, 3, 4, 6] rfl rfl (by decide) (by decide) hk1 hFc hP1 hD1
            have hP : va_P D vwCl [((w 0), .inl (k 5, 3, .inr (.inr (.inr (.inr (fun i => some (w (5 + i)))))))), ((w 5), .inl (k 0, 768, .inl (fun _ => 0))), ((w 6), .inl (k 0, 768, .inl (fun _ => 0))), ((w 7), .inl (k 0, 768, .inl (fun _ => 0))), ((w 1), .inl (k 6, 8, .inr (.inr (.inr (.inr (fun _ => none)))))), ((w 4), .inl (k 6, 6, .inr (.inr (.inr (.inr (fun _ => none)))))), (mo, .inr (13, u20))] H := hP
            have hD : va_D A [((w 0), .inl (k 5, 3, .inr (.inr (.inr (.inr (fun i => some (w (5 + i)))))))), ((w 5), .inl (k 0, 768, .inl (fun _ => 0))), ((w 6), .inl (k 0, 768, .inl (fun _ => 0))), ((w 7), .inl (k 0, 768, .inl (fun _ => 0))), ((w 1), .inl (k 6, 8, .inr (.inr (.inr (.inr (fun _ => none)))))), ((w 4), .inl (k 6, 6, .inr (.inr (.inr (.inr (fun _ => none)))))), (mo, .inr (13, u20))] := hD
            obtain ⟨hu0, hw_r21⟩ := hw_r21
            subst hw_r21
            exact W.iret (v := 0) hx hb hr (fun t ht hW => ⟨⟨0, u20, rfl, Or.inl ⟨by omega, hu0, rfl⟩, ⟨by rw [ht]; exact hP.sub [6] rfl, hD.sub [6] (by decide) rfl⟩⟩, hS.F ht⟩) hS.2.2 dX12_path_111
          · have g_80 : ¬ b.toInt = 0 := fun q9 => c_80 (Int32.toInt_inj.mp q9)
            refine lv_bipush (v := 42) hx hb dX12_path_83 (by decide) ?_
            refine lv_goto (tgt := 90) hx hb dX12_path_85 (by decide) ?_
            refine va_iast hx hb hC.1 hP hD hS 8 2 rfl rfl (vp_in_nI (n := 0) (N := 5) (by decide) (by decide)) dX12_path_90 (fun H locs hP hD hS => ?_)
            have hP : va_P D vwCl [((w 0), .inl (k 5, 3, .inr (.inr (.inr (.inr (fun i => some (w (5 + i)))))))), ((w 5), .inl (k 0, 768, .inl (fun _ => 0))), ((w 6), .inl (k 0, 768, .inl (fun _ => 0))), ((w 7), .inl (k 0, 768, .inl (fun _ => 0))), ((w 1), .inl (k 6, 8, .inr (.inr (.inr (.inr (fun _ => none)))))), ((w 2), .inl (k 6, 20, .inr (.inr (.inr (.inr (fun _ => none)))))), ((w 4), .inl (k 6, 6, .inr (.inr (.inr (.inr (fun _ => none)))))), (mo, .inr (13, [.int 0, .ref (w 0), .int 0, .ref (w 1), .int 0, .int 0, .ref (w 2), .int 0, .ref (w 3), .ref (w 4), .int 0])), (q74, .inl (k 2, 5, .inl (upd (fun _ => 0) (0 : Int32).toNatClampNeg 42)))] H := hP
            have hD : va_D A [((w 0), .inl (k 5, 3, .inr (.inr (.inr (.inr (fun i => some (w (5 + i)))))))), ((w 5), .inl (k 0, 768, .inl (fun _ => 0))), ((w 6), .inl (k 0, 768, .inl (fun _ => 0))), ((w 7), .inl (k 0, 768, .inl (fun _ => 0))), ((w 1), .inl (k 6, 8, .inr (.inr (.inr (.inr (fun _ => none)))))), ((w 2), .inl (k 6, 20, .inr (.inr (.inr (.inr (fun _ => none)))))), ((w 4), .inl (k 6, 6, .inr (.inr (.inr (.inr (fun _ => none)))))), (mo, .inr (13, [.int 0, .ref (w 0), .int 0, .ref (w 1), .int 0, .int 0, .ref (w 2), .int 0, .ref (w 3), .ref (w 4), .int 0])), (q74, .inl (k 2, 5, .inl (upd (fun _ => 0) (0 : Int32).toNatClampNeg 42)))] := hD
            refine lv_dup hx hb dX12_path_91 rfl ?_
            refine lv_iconst (v := 1) hx hb dX12_path_92 (by decide) ?_
            refine lv_iload_n hx hb dX12_path_93 rfl (lv_at hl 2 rfl) ?_
            refine va_iast hx hb hC.1 hP hD hS 8 2 rfl rfl (vp_in_nI (n := 1) (N := 5) (by decide) (by decide)) dX12_path_94 (fun H locs hP hD hS => ?_)
            have hP : va_P D vwCl [((w 0), .inl (k 5, 3, .inr (.inr (.inr (.inr (fun i => some (w (5 + i)))))))), ((w 5), .inl (k 0, 768, .inl (fun _ => 0))), ((w 6), .inl (k 0, 768, .inl (fun _ => 0))), ((w 7), .inl (k 0, 768, .inl (fun _ => 0))), ((w 1), .inl (k 6, 8, .inr (.inr (.inr (.inr (fun _ => none)))))), ((w 2), .inl (k 6, 20, .inr (.inr (.inr (.inr (fun _ => none)))))), ((w 4), .inl (k 6, 6, .inr (.inr (.inr (.inr (fun _ => none)))))), (mo, .inr (13, [.int 0, .ref (w 0), .int 0, .ref (w 1), .int 0, .int 0, .ref (w 2), .int 0, .ref (w 3), .ref (w 4), .int 0])), (q74, .inl (k 2, 5, .inl (upd (upd (fun _ => 0) (0 : Int32).toNatClampNeg 42) (1 : Int32).toNatClampNeg g)))] H := hP
            have hD : va_D A [((w 0), .inl (k 5, 3, .inr (.inr (.inr (.inr (fun i => some (w (5 + i)))))))), ((w 5), .inl (k 0, 768, .inl (fun _ => 0))), ((w 6), .inl (k 0, 768, .inl (fun _ => 0))), ((w 7), .inl (k 0, 768, .inl (fun _ => 0))), ((w 1), .inl (k 6, 8, .inr (.inr (.inr (.inr (fun _ => none)))))), ((w 2), .inl (k 6, 20, .inr (.inr (.inr (.inr (fun _ => none)))))), ((w 4), .inl (k 6, 6, .inr (.inr (.inr (.inr (fun _ => none)))))), (mo, .inr (13, [.int 0, .ref (w 0), .int 0, .ref (w 1), .int 0, .int 0, .ref (w 2), .int 0, .ref (w 3), .ref (w 4), .int 0])), (q74, .inl (k 2, 5, .inl (upd (upd (fun _ => 0) (0 : Int32).toNatClampNeg 42) (1 : Int32).toNatClampNeg g)))] := hD
            refine lv_dup hx hb dX12_path_95 rfl ?_
            refine lv_iconst (v := 2) hx hb dX12_path_96 (by decide) ?_
            refine lv_iload_n hx hb dX12_path_97 rfl (lv_at hl 3 rfl) ?_
            refine va_iast hx hb hC.1 hP hD hS 8 2 rfl rfl (vp_in_nI (n := 2) (N := 5) (by decide) (by decide)) dX12_path_98 (fun H locs hP hD hS => ?_)
            have hP : va_P D vwCl [((w 0), .inl (k 5, 3, .inr (.inr (.inr (.inr (fun i => some (w (5 + i)))))))), ((w 5), .inl (k 0, 768, .inl (fun _ => 0))), ((w 6), .inl (k 0, 768, .inl (fun _ => 0))), ((w 7), .inl (k 0, 768, .inl (fun _ => 0))), ((w 1), .inl (k 6, 8, .inr (.inr (.inr (.inr (fun _ => none)))))), ((w 2), .inl (k 6, 20, .inr (.inr (.inr (.inr (fun _ => none)))))), ((w 4), .inl (k 6, 6, .inr (.inr (.inr (.inr (fun _ => none)))))), (mo, .inr (13, [.int 0, .ref (w 0), .int 0, .ref (w 1), .int 0, .int 0, .ref (w 2), .int 0, .ref (w 3), .ref (w 4), .int 0])), (q74, .inl (k 2, 5, .inl (upd (upd (upd (fun _ => 0) (0 : Int32).toNatClampNeg 42) (1 : Int32).toNatClampNeg g) (2 : Int32).toNatClampNeg x)))] H := hP
            have hD : va_D A [((w 0), .inl (k 5, 3, .inr (.inr (.inr (.inr (fun i => some (w (5 + i)))))))), ((w 5), .inl (k 0, 768, .inl (fun _ => 0))), ((w 6), .inl (k 0, 768, .inl (fun _ => 0))), ((w 7), .inl (k 0, 768, .inl (fun _ => 0))), ((w 1), .inl (k 6, 8, .inr (.inr (.inr (.inr (fun _ => none)))))), ((w 2), .inl (k 6, 20, .inr (.inr (.inr (.inr (fun _ => none)))))), ((w 4), .inl (k 6, 6, .inr (.inr (.inr (.inr (fun _ => none)))))), (mo, .inr (13, [.int 0, .ref (w 0), .int 0, .ref (w 1), .int 0, .int 0, .ref (w 2), .int 0, .ref (w 3), .ref (w 4), .int 0])), (q74, .inl (k 2, 5, .inl (upd (upd (upd (fun _ => 0) (0 : Int32).toNatClampNeg 42) (1 : Int32).toNatClampNeg g) (2 : Int32).toNatClampNeg x)))] := hD
            refine lv_dup hx hb dX12_path_99 rfl ?_
            refine lv_iconst (v := 3) hx hb dX12_path_100 (by decide) ?_
            refine lv_iload_n hx hb dX12_path_101 rfl (lv_at hl 4 rfl) ?_
            refine va_iast hx hb hC.1 hP hD hS 8 2 rfl rfl (vp_in_nI (n := 3) (N := 5) (by decide) (by decide)) dX12_path_102 (fun H locs hP hD hS => ?_)
            have hP : va_P D vwCl [((w 0), .inl (k 5, 3, .inr (.inr (.inr (.inr (fun i => some (w (5 + i)))))))), ((w 5), .inl (k 0, 768, .inl (fun _ => 0))), ((w 6), .inl (k 0, 768, .inl (fun _ => 0))), ((w 7), .inl (k 0, 768, .inl (fun _ => 0))), ((w 1), .inl (k 6, 8, .inr (.inr (.inr (.inr (fun _ => none)))))), ((w 2), .inl (k 6, 20, .inr (.inr (.inr (.inr (fun _ => none)))))), ((w 4), .inl (k 6, 6, .inr (.inr (.inr (.inr (fun _ => none)))))), (mo, .inr (13, [.int 0, .ref (w 0), .int 0, .ref (w 1), .int 0, .int 0, .ref (w 2), .int 0, .ref (w 3), .ref (w 4), .int 0])), (q74, .inl (k 2, 5, .inl (upd (upd (upd (upd (fun _ => 0) (0 : Int32).toNatClampNeg 42) (1 : Int32).toNatClampNeg g) (2 : Int32).toNatClampNeg x) (3 : Int32).toNatClampNeg y)))] H := hP
            have hD : va_D A [((w 0), .inl (k 5, 3, .inr (.inr (.inr (.inr (fun i => some (w (5 + i)))))))), ((w 5), .inl (k 0, 768, .inl (fun _ => 0))), ((w 6), .inl (k 0, 768, .inl (fun _ => 0))), ((w 7), .inl (k 0, 768, .inl (fun _ => 0))), ((w 1), .inl (k 6, 8, .inr (.inr (.inr (.inr (fun _ => none)))))), ((w 2), .inl (k 6, 20, .inr (.inr (.inr (.inr (fun _ => none)))))), ((w 4), .inl (k 6, 6, .inr (.inr (.inr (.inr (fun _ => none)))))), (mo, .inr (13, [.int 0, .ref (w 0), .int 0, .ref (w 1), .int 0, .int 0, .ref (w 2), .int 0, .ref (w 3), .ref (w 4), .int 0])), (q74, .inl (k 2, 5, .inl (upd (upd (upd (upd (fun _ => 0) (0 : Int32).toNatClampNeg 42) (1 : Int32).toNatClampNeg g) (2 : Int32).toNatClampNeg x) (3 : Int32).toNatClampNeg y)))] := hD
            refine lv_dup hx hb dX12_path_103 rfl ?_
            refine lv_iconst (v := 4) hx hb dX12_path_104 (by decide) ?_
            refine lv_iload hx hb dX12_path_105 (lv_at hl 5 rfl) ?_
            refine va_iast hx hb hC.1 hP hD hS 8 2 rfl rfl (vp_in_nI (n := 4) (N := 5) (by decide) (by decide)) dX12_path_107 (fun H locs hP hD hS => ?_)
            have hP : va_P D vwCl [((w 0), .inl (k 5, 3, .inr (.inr (.inr (.inr (fun i => some (w (5 + i)))))))), ((w 5), .inl (k 0, 768, .inl (fun _ => 0))), ((w 6), .inl (k 0, 768, .inl (fun _ => 0))), ((w 7), .inl (k 0, 768, .inl (fun _ => 0))), ((w 1), .inl (k 6, 8, .inr (.inr (.inr (.inr (fun _ => none)))))), ((w 2), .inl (k 6, 20, .inr (.inr (.inr (.inr (fun _ => none)))))), ((w 4), .inl (k 6, 6, .inr (.inr (.inr (.inr (fun _ => none)))))), (mo, .inr (13, [.int 0, .ref (w 0), .int 0, .ref (w 1), .int 0, .int 0, .ref (w 2), .int 0, .ref (w 3), .ref (w 4), .int 0])), (q74, .inl (k 2, 5, .inl (upd (upd (upd (upd (upd (fun _ => 0) (0 : Int32).toNatClampNeg 42) (1 : Int32).toNatClampNeg g) (2 : Int32).toNatClampNeg x) (3 : Int32).toNatClampNeg y) (4 : Int32).toNatClampNeg z)))] H := hP
            have hD : va_D A [((w 0), .inl (k 5, 3, .inr (.inr (.inr (.inr (fun i => some (w (5 + i)))))))), ((w 5), .inl (k 0, 768, .inl (fun _ => 0))), ((w 6), .inl (k 0, 768, .inl (fun _ => 0))), ((w 7), .inl (k 0, 768, .inl (fun _ => 0))), ((w 1), .inl (k 6, 8, .inr (.inr (.inr (.inr (fun _ => none)))))), ((w 2), .inl (k 6, 20, .inr (.inr (.inr (.inr (fun _ => none)))))), ((w 4), .inl (k 6, 6, .inr (.inr (.inr (.inr (fun _ => none)))))), (mo, .inr (13, [.int 0, .ref (w 0), .int 0, .ref (w 1), .int 0, .int 0, .ref (w 2), .int 0, .ref (w 3), .ref (w 4), .int 0])), (q74, .inl (k 2, 5, .inl (upd (upd (upd (upd (upd (fun _ => 0) (0 : Int32).toNatClampNeg 42) (1 : Int32).toNatClampNeg g) (2 : Int32).toNatClampNeg x) (3 : Int32).toNatClampNeg y) (4 : Int32).toNatClampNeg z)))] := hD
            have hPc := hP.sub (ws' := [(mo, .inr (13, [.int 0, .ref (w 0), .int 0, .ref (w 1), .int 0, .int 0, .ref (w 2), .int 0, .ref (w 3), .ref (w 4), .int 0])), ((w 2), .inl (k 6, 20, .inr (.inr (.inr (.inr (fun _ => none)))))), (q74, .inl (k 2, 5, .inl (upd (upd (upd (upd (upd (fun _ => 0) (0 : Int32).toNatClampNeg 42) (1 : Int32).toNatClampNeg g) (2 : Int32).toNatClampNeg x) (3 : Int32).toNatClampNeg y) (4 : Int32).toNatClampNeg z)))]) [7, 5, 8] rfl
            have hDc := hD.sub (ws' := [(mo, .inr (13, [.int 0, .ref (w 0), .int 0, .ref (w 1), .int 0, .int 0, .ref (w 2), .int 0, .ref (w 3), .ref (w 4), .int 0])), ((w 2), .inl (k 6, 20, .inr (.inr (.inr (.inr (fun _ => none)))))), (q74, .inl (k 2, 5, .inl (upd (upd (upd (upd (upd (fun _ => 0) (0 : Int32).toNatClampNeg 42) (1 : Int32).toNatClampNeg g) (2 : Int32).toNatClampNeg x) (3 : Int32).toNatClampNeg y) (4 : Int32).toNatClampNeg z)))]) [7, 5, 8] (by decide) rfl
            have hFc := va_free (wc := [(mo, .inr (13, [.int 0, .ref (w 0), .int 0, .ref (w 1), .int 0, .int 0, .ref (w 2), .int 0, .ref (w 3), .ref (w 4), .int 0])), ((w 2), .inl (k 6, 20, .inr (.inr (.inr (.inr (fun _ => none)))))), (q74, .inl (k 2, 5, .inl (upd (upd (upd (upd (upd (fun _ => 0) (0 : Int32).toNatClampNeg 42) (1 : Int32).toNatClampNeg g) (2 : Int32).toNatClampNeg x) (3 : Int32).toNatClampNeg y) (4 : Int32).toNatClampNeg z)))]) hD hS hA [7, 5, 8] rfl
            refine va_calli (va_runV (As := [.ref q74]) (rest := []) ⟨hx, hb, hml, hown, hts⟩ (k_X12_made l D k e0 H.size mo w q74 (5, .inl (upd (upd (upd (upd (upd (fun _ => 0) (0 : Int32).toNatClampNeg 42) (1 : Int32).toNatClampNeg g) (2 : Int32).toNatClampNeg x) (3 : Int32).toNatClampNeg y) (4 : Int32).toNatClampNeg z))) (cwV 1 hts gX12_path_X12_made rfl rfl rfl (by decide +kernel) ⟨Nat.le_of_ble_eq_true rfl, Nat.le_of_ble_eq_true rfl⟩) ⟨mPc_fb, va_recv hC.1 hPc (ci := 13) (q0 := 0) rfl rfl, mPc_go hC hHf hS hPc hDc hFc⟩ rfl rfl hl.1 rfl (lv_room (Nat.le_of_ble_eq_true rfl)) dX12_path_108 ⟨Nat.le_of_ble_eq_true rfl, Nat.le_of_ble_eq_true rfl⟩) hS (fun q9 _ h9 => hFc q9 h9) hFc (fun r24 u23 t H locs ht hvm hw_r24 hB hz1 hk1 hS => ?_)
            obtain ⟨hP1, hD1⟩ := hB
            rw [ht] at hP1
            obtain ⟨hP, hD⟩ := va_join (wr := [((w 0), .inl (k 5, 3, .inr (.inr (.inr (.inr (fun i => some (w (5 + i)))))))), ((w 5), .inl (k 0, 768, .inl (fun _ => 0))), ((w 6), .inl (k 0, 768, .inl (fun _ => 0))), ((w 7), .inl (k 0, 768, .inl (fun _ => 0))), ((w 1), .inl (k 6, 8, .inr (.inr (.inr (.inr (fun _ => none)))))), ((w 4), .inl (k 6, 6, .inr (.inr (.inr (.inr (fun _ => none))))))]) (w1 := [(mo, .inr (13, u23))]) hP hD [7, 5, 8] [0, 1, 2, 3, 4, 6] rfl rfl (by decide) (by decide) hk1 hFc hP1 hD1
            have hP : va_P D vwCl [((w 0), .inl (k 5, 3, .inr (.inr (.inr (.inr (fun i => some (w (5 + i)))))))), ((w 5), .inl (k 0, 768, .inl (fun _ => 0))), ((w 6), .inl (k 0, 768, .inl (fun _ => 0))), ((w 7), .inl (k 0, 768, .inl (fun _ => 0))), ((w 1), .inl (k 6, 8, .inr (.inr (.inr (.inr (fun _ => none)))))), ((w 4), .inl (k 6, 6, .inr (.inr (.inr (.inr (fun _ => none)))))), (mo, .inr (13, u23))] H := hP
            have hD : va_D A [((w 0), .inl (k 5, 3, .inr (.inr (.inr (.inr (fun i => some (w (5 + i)))))))), ((w 5), .inl (k 0, 768, .inl (fun _ => 0))), ((w 6), .inl (k 0, 768, .inl (fun _ => 0))), ((w 7), .inl (k 0, 768, .inl (fun _ => 0))), ((w 1), .inl (k 6, 8, .inr (.inr (.inr (.inr (fun _ => none)))))), ((w 4), .inl (k 6, 6, .inr (.inr (.inr (.inr (fun _ => none)))))), (mo, .inr (13, u23))] := hD
            obtain ⟨hu0, hw_r24⟩ := hw_r24
            subst hw_r24
            exact W.iret (v := 0) hx hb hr (fun t ht hW => ⟨⟨0, u23, rfl, Or.inl ⟨by omega, hu0, rfl⟩, ⟨by rw [ht]; exact hP.sub [6] rfl, hD.sub [6] (by decide) rfl⟩⟩, hS.F ht⟩) hS.2.2 dX12_path_111

set_option maxHeartbeats 4000000 in
set_option maxRecDepth 100000 in
theorem k_X12_both (l : Launch) (D : va_G) (k : Nat → ClassId) (e0 : Nat) (sz : Nat) (mo : Nat) (w : Nat → Nat) (kd x y : Int32) : Met l yX12_both wsX12_both ({ frames := 2, cells := 0, slots := 0, locals := 43 }) (mPc D k e0 sz [.ref mo, .int kd, .int x, .int y] [(mo, .inr (13, [.int 0, .ref (w 0), .int 0, .ref (w 1), .int 0, .int 0, .ref (w 2), .int 0, .ref (w 3), .ref (w 4), .int 0])), ((w 0), .inl (k 5, 3, .inr (.inr (.inr (.inr (fun i => some (w (5 + i)))))))), ((w 5), .inl (k 0, 768, .inl (fun _ => 0))), ((w 6), .inl (k 0, 768, .inl (fun _ => 0))), ((w 7), .inl (k 0, 768, .inl (fun _ => 0))), ((w 1), .inl (k 6, 8, .inr (.inr (.inr (.inr (fun _ => none)))))), ((w 2), .inl (k 6, 20, .inr (.inr (.inr (.inr (fun _ => none)))))), ((w 4), .inl (k 6, 6, .inr (.inr (.inr (.inr (fun _ => none))))))]) (va_Qi (fun r (u : List Value) => ((kd.toInt = 106 ∨ kd.toInt = 111 ∨ kd.toInt = 109 ∨ kd.toInt = 117) ∧ u[0]? = some (.int 2)) ∨ (¬ (kd.toInt = 106 ∨ kd.toInt = 111 ∨ kd.toInt = 109 ∨ kd.toInt = 117) ∧ u[0]? = some (.int 1))) (fun u t => va_P D vwCl [(mo, .inr (13, u))] t.heap ∧ va_D (va_A [(mo, .inr (13, [.int 0, .ref (w 0), .int 0, .ref (w 1), .int 0, .int 0, .ref (w 2), .int 0, .ref (w 3), .ref (w 4), .int 0])), ((w 0), .inl (k 5, 3, .inr (.inr (.inr (.inr (fun i => some (w (5 + i)))))))), ((w 5), .inl (k 0, 768, .inl (fun _ => 0))), ((w 6), .inl (k 0, 768, .inl (fun _ => 0))), ((w 7), .inl (k 0, 768, .inl (fun _ => 0))), ((w 1), .inl (k 6, 8, .inr (.inr (.inr (.inr (fun _ => none)))))), ((w 2), .inl (k 6, 20, .inr (.inr (.inr (.inr (fun _ => none)))))), ((w 4), .inl (k 6, 6, .inr (.inr (.inr (.inr (fun _ => none))))))] sz) [(mo, .inr (13, u))]) (va_A [(mo, .inr (13, [.int 0, .ref (w 0), .int 0, .ref (w 1), .int 0, .int 0, .ref (w 2), .int 0, .ref (w 3), .ref (w 4), .int 0])), ((w 0), .inl (k 5, 3, .inr (.inr (.inr (.inr (fun i => some (w (5 + i)))))))), ((w 5), .inl (k 0, 768, .inl (fun _ => 0))), ((w 6), .inl (k 0, 768, .inl (fun _ => 0))), ((w 7), .inl (k 0, 768, .inl (fun _ => 0))), ((w 1), .inl (k 6, 8, .inr (.inr (.inr (.inr (fun _ => none)))))), ((w 2), .inl (k 6, 20, .inr (.inr (.inr (.inr (fun _ => none)))))), ((w 4), .inl (k 6, 6, .inr (.inr (.inr (.inr (fun _ => none))))))] sz)) 0 0 (va_A [(mo, .inr (13, [.int 0, .ref (w 0), .int 0, .ref (w 1), .int 0, .int 0, .ref (w 2), .int 0, .ref (w 3), .ref (w 4), .int 0])), ((w 0), .inl (k 5, 3, .inr (.inr (.inr (.inr (fun i => some (w (5 + i)))))))), ((w 5), .inl (k 0, 768, .inl (fun _ => 0))), ((w 6), .inl (k 0, 768, .inl (fun _ => 0))), ((w 7), .inl (k 0, 768, .inl (fun _ => 0))), ((w 1), .inl (k 6, 8, .inr (.inr (.inr (.inr (fun _ => none)))))), ((w 2), .inl (k 6, 20, .inr (.inr (.inr (.inr (fun _ => none)))))), ((w 4), .inl (k 6, 6, .inr (.inr (.inr (.inr (fun _ => none))))))] sz) := by
  refine Met.ofW (cc := cX12_both) (maxL := 5) (ret := (some .int)) (by decide) rfl ?_
  intro p e s m args below meth c s₁ B hml hv
  obtain ⟨rfl, rfl, hP, hC, hD0, hHf⟩ := hv
  have hx := B.exec
  have hb := B.bytes
  have hr := B.returns
  have hts := atoms_spec (ws := wsX12_both) B.pre
  have hown : s.vm.findClass RX12 = some m.cls := findClass_of_methodNamed B.named
  have hlocks := B.notSynchronized
  have hD := hD0.self (sz := s.heap.size)
  generalize hAe : va_A [(mo, .inr (13, [.int 0, .ref (w 0), .int 0, .ref (w 1), .int 0, .int 0, .ref (w 2), .int 0, .ref (w 3), .ref (w 4), .int 0])), ((w 0), .inl (k 5, 3, .inr (.inr (.inr (.inr (fun i => some (w (5 + i)))))))), ((w 5), .inl (k 0, 768, .inl (fun _ => 0))), ((w 6), .inl (k 0, 768, .inl (fun _ => 0))), ((w 7), .inl (k 0, 768, .inl (fun _ => 0))), ((w 1), .inl (k 6, 8, .inr (.inr (.inr (.inr (fun _ => none)))))), ((w 2), .inl (k 6, 20, .inr (.inr (.inr (.inr (fun _ => none)))))), ((w 4), .inl (k 6, 6, .inr (.inr (.inr (.inr (fun _ => none))))))] s.heap.size = A at hD hHf ⊢
  have hA : ∀ q : Nat, s.heap.size ≤ q → A q := fun q h => by rw [← hAe]; exact Or.inr h
  have hS : va_S A s.heap s.heap [] := va_S.rf
  refine w_entry (Nat.le_of_ble_eq_true rfl) (fun ls hl => ?_)
  have hl : lv_has ls 5 [(0, .ref mo), (1, .int kd), (2, .int x), (3, .int y)] := hl
  refine w_join (pc2 := 31) (st2 := []) (I := fun locs ls => va_S A s.heap s.heap locs ∧ ∃ r4 : Int32, r4 = bi (kd.toInt = 106 ∨ kd.toInt = 111 ∨ kd.toInt = 109 ∨ kd.toInt = 117) ∧ lv_has ls 5 [(0, .ref mo), (1, .int kd), (2, .int x), (3, .int y), (4, .int r4)]) ?_ ?_
  · rintro locs ls ⟨hS, r4, e_r4, hl⟩
    refine lv_aload_n hx hb dX12_both_31 rfl (lv_at hl 0 rfl) ?_
    refine lv_iload hx hb dX12_both_32 (lv_at hl 4 rfl) ?_
    refine lv_if_ne (tgt := 41) hx hb dX12_both_34 (by decide) (fun c_34 => ?_) (fun c_34 => ?_)
    · have f_34 := bi_n e_r4 c_34
      refine lv_aload_n hx hb dX12_both_41 rfl (lv_at hl 0 rfl) ?_
      refine lv_iload_n hx hb dX12_both_42 rfl (lv_at hl 2 rfl) ?_
      refine pz_i (va_runV (As := [.int x]) (rest := [.ref mo]) ⟨hx, hb, hml, hown, hts⟩ (k_X12_isQuery l D k s.heap mo w x (hP.sub [0] rfl)) (cwV 1 hts gX12_both_X12_isQuery rfl rfl rfl (by decide +kernel) ⟨Nat.le_of_ble_eq_true rfl, Nat.le_of_ble_eq_true rfl⟩) ⟨pPc_fb, va_recv hC.1 hP (ci := 13) (q0 := 0) rfl rfl, pPc_go hC⟩ rfl rfl hl.1 rfl (lv_room (Nat.le_of_ble_eq_true rfl)) dX12_both_43 ⟨Nat.le_of_ble_eq_true rfl, Nat.le_of_ble_eq_true rfl⟩) hS (fun r1 locs hw_r1 hS => ?_)
      subst hw_r1
      refine lv_if_eq (tgt := 57) hx hb dX12_both_46 (by decide) (fun c_46 => ?_) (fun c_46 => absurd (by decide) c_46)
      refine lv_iconst (v := 2) hx hb dX12_both_57 (by decide) ?_
      refine lv_goto (tgt := 75) hx hb dX12_both_58 (by decide) ?_
      have hPc := hP.sub (ws' := [(mo, .inr (13, [.int 0, .ref (w 0), .int 0, .ref (w 1), .int 0, .int 0, .ref (w 2), .int 0, .ref (w 3), .ref (w 4), .int 0]))]) [0] rfl
      have hDc := hD.sub (ws' := [(mo, .inr (13, [.int 0, .ref (w 0), .int 0, .ref (w 1), .int 0, .int 0, .ref (w 2), .int 0, .ref (w 3), .ref (w 4), .int 0]))]) [0] (by decide) rfl
      have hFc := va_free (wc := [(mo, .inr (13, [.int 0, .ref (w 0), .int 0, .ref (w 1), .int 0, .int 0, .ref (w 2), .int 0, .ref (w 3), .ref (w 4), .int 0]))]) hD hS hA [0] rfl
      refine va_calli (va_runV (As := [.int 2]) (rest := []) ⟨hx, hb, hml, hown, hts⟩ (k_X12_fails l D k e0 s.heap.size mo w 0 2) (cwV 1 hts gX12_both_X12_fails rfl rfl rfl (by decide +kernel) ⟨Nat.le_of_ble_eq_true rfl, Nat.le_of_ble_eq_true rfl⟩) ⟨mPc_fb, va_recv hC.1 hPc (ci := 13) (q0 := 0) rfl rfl, mPc_go hC hHf hS hPc hDc hFc⟩ rfl rfl hl.1 rfl (lv_room (Nat.le_of_ble_eq_true rfl)) dX12_both_75 ⟨Nat.le_of_ble_eq_true rfl, Nat.le_of_ble_eq_true rfl⟩) hS (fun q9 _ h9 => hFc q9 h9) hFc (fun r3 u2 t H locs ht hvm hw_r3 hB hz1 hk1 hS => ?_)
      obtain ⟨hP1, hD1⟩ := hB
      rw [ht] at hP1
      obtain ⟨hP, hD⟩ := va_join (wr := [((w 0), .inl (k 5, 3, .inr (.inr (.inr (.inr (fun i => some (w (5 + i)))))))), ((w 5), .inl (k 0, 768, .inl (fun _ => 0))), ((w 6), .inl (k 0, 768, .inl (fun _ => 0))), ((w 7), .inl (k 0, 768, .inl (fun _ => 0))), ((w 1), .inl (k 6, 8, .inr (.inr (.inr (.inr (fun _ => none)))))), ((w 2), .inl (k 6, 20, .inr (.inr (.inr (.inr (fun _ => none)))))), ((w 4), .inl (k 6, 6, .inr (.inr (.inr (.inr (fun _ => none))))))]) (w1 := [(mo, .inr (13, [.int 2, .ref (w 0), .int 0, .ref (w 1), .int 0, .int 0, .ref (w 2), .int 0, .ref (w 3), .ref (w 4), .int 0]))]) hP hD [0] [1, 2, 3, 4, 5, 6, 7] rfl rfl (by decide) (by decide) hk1 hFc hP1 hD1
      have hP : va_P D vwCl [((w 0), .inl (k 5, 3, .inr (.inr (.inr (.inr (fun i => some (w (5 + i)))))))), ((w 5), .inl (k 0, 768, .inl (fun _ => 0))), ((w 6), .inl (k 0, 768, .inl (fun _ => 0))), ((w 7), .inl (k 0, 768, .inl (fun _ => 0))), ((w 1), .inl (k 6, 8, .inr (.inr (.inr (.inr (fun _ => none)))))), ((w 2), .inl (k 6, 20, .inr (.inr (.inr (.inr (fun _ => none)))))), ((w 4), .inl (k 6, 6, .inr (.inr (.inr (.inr (fun _ => none)))))), (mo, .inr (13, [.int 2, .ref (w 0), .int 0, .ref (w 1), .int 0, .int 0, .ref (w 2), .int 0, .ref (w 3), .ref (w 4), .int 0]))] H := hP
      have hD : va_D A [((w 0), .inl (k 5, 3, .inr (.inr (.inr (.inr (fun i => some (w (5 + i)))))))), ((w 5), .inl (k 0, 768, .inl (fun _ => 0))), ((w 6), .inl (k 0, 768, .inl (fun _ => 0))), ((w 7), .inl (k 0, 768, .inl (fun _ => 0))), ((w 1), .inl (k 6, 8, .inr (.inr (.inr (.inr (fun _ => none)))))), ((w 2), .inl (k 6, 20, .inr (.inr (.inr (.inr (fun _ => none)))))), ((w 4), .inl (k 6, 6, .inr (.inr (.inr (.inr (fun _ => none)))))), (mo, .inr (13, [.int 2, .ref (w 0), .int 0, .ref (w 1), .int 0, .int 0, .ref (w 2), .int 0, .ref (w 3), .ref (w 4), .int 0]))] := hD
      have e_r3 : r3 = 1 := hw_r3.trans (by decide)
      subst e_r3
      refine lv_if_eq (tgt := 85) hx hb dX12_both_78 (by decide) (fun c_78 => absurd c_78 (by decide)) (fun c_78 => ?_)
      refine lv_iconst (v := 0) hx hb dX12_both_81 (by decide) ?_
      refine lv_goto (tgt := 104) hx hb dX12_both_82 (by decide) ?_
      exact W.iret (v := 0) hx hb hr (fun t ht hW => ⟨⟨0, [.int 2, .ref (w 0), .int 0, .ref (w 1), .int 0, .int 0, .ref (w 2), .int 0, .ref (w 3), .ref (w 4), .int 0], rfl, Or.inl ⟨f_34, rfl⟩, ⟨by rw [ht]; exact hP.sub [7] rfl, hD.sub [7] (by decide) rfl⟩⟩, hS.F ht⟩) hS.2.2 dX12_both_104
    · have f_34 := bi_z e_r4 c_34
      refine lv_iconst (v := 1) hx hb dX12_both_37 (by decide) ?_
      refine lv_goto (tgt := 75) hx hb dX12_both_38 (by decide) ?_
      have hPc := hP.sub (ws' := [(mo, .inr (13, [.int 0, .ref (w 0), .int 0, .ref (w 1), .int 0, .int 0, .ref (w 2), .int 0, .ref (w 3), .ref (w 4), .int 0]))]) [0] rfl
      have hDc := hD.sub (ws' := [(mo, .inr (13, [.int 0, .ref (w 0), .int 0, .ref (w 1), .int 0, .int 0, .ref (w 2), .int 0, .ref (w 3), .ref (w 4), .int 0]))]) [0] (by decide) rfl
      have hFc := va_free (wc := [(mo, .inr (13, [.int 0, .ref (w 0), .int 0, .ref (w 1), .int 0, .int 0, .ref (w 2), .int 0, .ref (w 3), .ref (w 4), .int 0]))]) hD hS hA [0] rfl
      refine va_calli (va_runV (As := [.int 1]) (rest := []) ⟨hx, hb, hml, hown, hts⟩ (k_X12_fails l D k e0 s.heap.size mo w 0 1) (cwV 1 hts gX12_both_X12_fails rfl rfl rfl (by decide +kernel) ⟨Nat.le_of_ble_eq_true rfl, Nat.le_of_ble_eq_true rfl⟩) ⟨mPc_fb, va_recv hC.1 hPc (ci := 13) (q0 := 0) rfl rfl, mPc_go hC hHf hS hPc hDc hFc⟩ rfl rfl hl.1 rfl (lv_room (Nat.le_of_ble_eq_true rfl)) dX12_both_75 ⟨Nat.le_of_ble_eq_true rfl, Nat.le_of_ble_eq_true rfl⟩) hS (fun q9 _ h9 => hFc q9 h9) hFc (fun r6 u5 t H locs ht hvm hw_r6 hB hz1 hk1 hS => ?_)
      obtain ⟨hP1, hD1⟩ := hB
      rw [ht] at hP1
      obtain ⟨hP, hD⟩ := va_join (wr := [((w 0), .inl (k 5, 3, .inr (.inr (.inr (.inr (fun i => some (w (5 + i)))))))), ((w 5), .inl (k 0, 768, .inl (fun _ => 0))), ((w 6), .inl (k 0, 768, .inl (fun _ => 0))), ((w 7), .inl (k 0, 768, .inl (fun _ => 0))), ((w 1), .inl (k 6, 8, .inr (.inr (.inr (.inr (fun _ => none)))))), ((w 2), .inl (k 6, 20, .inr (.inr (.inr (.inr (fun _ => none)))))), ((w 4), .inl (k 6, 6, .inr (.inr (.inr (.inr (fun _ => none))))))]) (w1 := [(mo, .inr (13, [.int 1, .ref (w 0), .int 0, .ref (w 1), .int 0, .int 0, .ref (w 2), .int 0, .ref (w 3), .ref (w 4), .int 0]))]) hP hD [0] [1, 2, 3, 4, 5, 6, 7] rfl rfl (by decide) (by decide) hk1 hFc hP1 hD1
      have hP : va_P D vwCl [((w 0), .inl (k 5, 3, .inr (.inr (.inr (.inr (fun i => some (w (5 + i)))))))), ((w 5), .inl (k 0, 768, .inl (fun _ => 0))), ((w 6), .inl (k 0, 768, .inl (fun _ => 0))), ((w 7), .inl (k 0, 768, .inl (fun _ => 0))), ((w 1), .inl (k 6, 8, .inr (.inr (.inr (.inr (fun _ => none)))))), ((w 2), .inl (k 6, 20, .inr (.inr (.inr (.inr (fun _ => none)))))), ((w 4), .inl (k 6, 6, .inr (.inr (.inr (.inr (fun _ => none)))))), (mo, .inr (13, [.int 1, .ref (w 0), .int 0, .ref (w 1), .int 0, .int 0, .ref (w 2), .int 0, .ref (w 3), .ref (w 4), .int 0]))] H := hP
      have hD : va_D A [((w 0), .inl (k 5, 3, .inr (.inr (.inr (.inr (fun i => some (w (5 + i)))))))), ((w 5), .inl (k 0, 768, .inl (fun _ => 0))), ((w 6), .inl (k 0, 768, .inl (fun _ => 0))), ((w 7), .inl (k 0, 768, .inl (fun _ => 0))), ((w 1), .inl (k 6, 8, .inr (.inr (.inr (.inr (fun _ => none)))))), ((w 2), .inl (k 6, 20, .inr (.inr (.inr (.inr (fun _ => none)))))), ((w 4), .inl (k 6, 6, .inr (.inr (.inr (.inr (fun _ => none)))))), (mo, .inr (13, [.int 1, .ref (w 0), .int 0, .ref (w 1), .int 0, .int 0, .ref (w 2), .int 0, .ref (w 3), .ref (w 4), .int 0]))] := hD
      have e_r6 : r6 = 1 := hw_r6.trans (by decide)
      subst e_r6
      refine lv_if_eq (tgt := 85) hx hb dX12_both_78 (by decide) (fun c_78 => absurd c_78 (by decide)) (fun c_78 => ?_)
      refine lv_iconst (v := 0) hx hb dX12_both_81 (by decide) ?_
      refine lv_goto (tgt := 104) hx hb dX12_both_82 (by decide) ?_
      exact W.iret (v := 0) hx hb hr (fun t ht hW => ⟨⟨0, [.int 1, .ref (w 0), .int 0, .ref (w 1), .int 0, .int 0, .ref (w 2), .int 0, .ref (w 3), .ref (w 4), .int 0], rfl, Or.inr ⟨f_34, rfl⟩, ⟨by rw [ht]; exact hP.sub [7] rfl, hD.sub [7] (by decide) rfl⟩⟩, hS.F ht⟩) hS.2.2 dX12_both_104
  · intro hj_r4
    refine lv_iload_n hx hb dX12_both_0 rfl (lv_at hl 1 rfl) ?_
    refine lv_bipush (v := 106) hx hb dX12_both_1 (by decide) ?_
    refine lv_icmp_eq (tgt := 24) hx hb dX12_both_3 (by decide) (fun c_3 => ?_) (fun c_3 => ?_)
    · have g_3 : kd.toInt = 106 := congrArg Int32.toInt c_3
      refine lv_iconst (v := 1) hx hb dX12_both_24 (by decide) ?_
      refine lv_goto (tgt := 29) hx hb dX12_both_25 (by decide) ?_
      refine lv_istore (lv' := [(4, .int 1), (0, .ref mo), (1, .int kd), (2, .int x), (3, .int y)]) hx hb dX12_both_29 hl (by decide) rfl (fun ls hl => ?_)
      exact hj_r4 _ _ ⟨hS, _, bi_t (by omega), lv_sub hl [1, 2, 3, 4, 0] rfl⟩
    · have g_3 : ¬ kd.toInt = 106 := fun q9 => c_3 (Int32.toInt_inj.mp q9)
      refine lv_iload_n hx hb dX12_both_6 rfl (lv_at hl 1 rfl) ?_
      refine lv_bipush (v := 111) hx hb dX12_both_7 (by decide) ?_
      refine lv_icmp_eq (tgt := 24) hx hb dX12_both_9 (by decide) (fun c_9 => ?_) (fun c_9 => ?_)
      · have g_9 : kd.toInt = 111 := congrArg Int32.toInt c_9
        refine lv_iconst (v := 1) hx hb dX12_both_24 (by decide) ?_
        refine lv_goto (tgt := 29) hx hb dX12_both_25 (by decide) ?_
        refine lv_istore (lv' := [(4, .int 1), (0, .ref mo), (1, .int kd), (2, .int x), (3, .int y)]) hx hb dX12_both_29 hl (by decide) rfl (fun ls hl => ?_)
        exact hj_r4 _ _ ⟨hS, _, bi_t (by omega), lv_sub hl [1, 2, 3, 4, 0] rfl⟩
      · have g_9 : ¬ kd.toInt = 111 := fun q9 => c_9 (Int32.toInt_inj.mp q9)
        refine lv_iload_n hx hb dX12_both_12 rfl (lv_at hl 1 rfl) ?_
        refine lv_bipush (v := 109) hx hb dX12_both_13 (by decide) ?_
        refine lv_icmp_eq (tgt := 24) hx hb dX12_both_15 (by decide) (fun c_15 => ?_) (fun c_15 => ?_)
        · have g_15 : kd.toInt = 109 := congrArg Int32.toInt c_15
          refine lv_iconst (v := 1) hx hb dX12_both_24 (by decide) ?_
          refine lv_goto (tgt := 29) hx hb dX12_both_25 (by decide) ?_
          refine lv_istore (lv' := [(4, .int 1), (0, .ref mo), (1, .int kd), (2, .int x), (3, .int y)]) hx hb dX12_both_29 hl (by decide) rfl (fun ls hl => ?_)
          exact hj_r4 _ _ ⟨hS, _, bi_t (by omega), lv_sub hl [1, 2, 3, 4, 0] rfl⟩
        · have g_15 : ¬ kd.toInt = 109 := fun q9 => c_15 (Int32.toInt_inj.mp q9)
          refine lv_iload_n hx hb dX12_both_18 rfl (lv_at hl 1 rfl) ?_
          refine lv_bipush (v := 117) hx hb dX12_both_19 (by decide) ?_
          refine lv_icmp_ne (tgt := 28) hx hb dX12_both_21 (by decide) (fun c_21 => ?_) (fun c_21 => ?_)
          · have g_21 : ¬ kd.toInt = 117 := fun q9 => c_21 (Int32.toInt_inj.mp q9)
            refine lv_iconst (v := 0) hx hb dX12_both_28 (by decide) ?_
            refine lv_istore (lv' := [(4, .int 0), (0, .ref mo), (1, .int kd), (2, .int x), (3, .int y)]) hx hb dX12_both_29 hl (by decide) rfl (fun ls hl => ?_)
            exact hj_r4 _ _ ⟨hS, _, bi_f (by omega), lv_sub hl [1, 2, 3, 4, 0] rfl⟩
          · have g_21 : kd.toInt = 117 := congrArg Int32.toInt c_21
            refine lv_iconst (v := 1) hx hb dX12_both_24 (by decide) ?_
            refine lv_goto (tgt := 29) hx hb dX12_both_25 (by decide) ?_
            refine lv_istore (lv' := [(4, .int 1), (0, .ref mo), (1, .int kd), (2, .int x), (3, .int y)]) hx hb dX12_both_29 hl (by decide) rfl (fun ls hl => ?_)
            exact hj_r4 _ _ ⟨hS, _, bi_t (by omega), lv_sub hl [1, 2, 3, 4, 0] rfl⟩

set_option maxHeartbeats 4000000 in
set_option maxRecDepth 100000 in
theorem k_X12_filter (l : Launch) (D : va_G) (k : Nat → ClassId) (e0 : Nat) (sz : Nat) (mo : Nat) (w : Nat → Nat) (n kd x y : Int32) : Met l yX12_filter wsX12_filter ({ frames := 2, cells := 0, slots := 0, locals := 43 }) (mPc D k e0 sz [.ref mo, .int n, .int kd, .int x, .int y] [(mo, .inr (13, [.int 0, .ref (w 0), .int 0, .ref (w 1), .int 0, .int 0, .ref (w 2), .int 0, .ref (w 3), .ref (w 4), .int 0])), ((w 0), .inl (k 5, 3, .inr (.inr (.inr (.inr (fun i => some (w (5 + i)))))))), ((w 5), .inl (k 0, 768, .inl (fun _ => 0))), ((w 6), .inl (k 0, 768, .inl (fun _ => 0))), ((w 7), .inl (k 0, 768, .inl (fun _ => 0))), ((w 1), .inl (k 6, 8, .inr (.inr (.inr (.inr (fun _ => none)))))), ((w 2), .inl (k 6, 20, .inr (.inr (.inr (.inr (fun _ => none)))))), ((w 4), .inl (k 6, 6, .inr (.inr (.inr (.inr (fun _ => none))))))]) (va_Qi (fun r (u : List Value) => u[0]? = some (.int 1)) (fun u t => va_P D vwCl [(mo, .inr (13, u))] t.heap ∧ va_D (va_A [(mo, .inr (13, [.int 0, .ref (w 0), .int 0, .ref (w 1), .int 0, .int 0, .ref (w 2), .int 0, .ref (w 3), .ref (w 4), .int 0])), ((w 0), .inl (k 5, 3, .inr (.inr (.inr (.inr (fun i => some (w (5 + i)))))))), ((w 5), .inl (k 0, 768, .inl (fun _ => 0))), ((w 6), .inl (k 0, 768, .inl (fun _ => 0))), ((w 7), .inl (k 0, 768, .inl (fun _ => 0))), ((w 1), .inl (k 6, 8, .inr (.inr (.inr (.inr (fun _ => none)))))), ((w 2), .inl (k 6, 20, .inr (.inr (.inr (.inr (fun _ => none)))))), ((w 4), .inl (k 6, 6, .inr (.inr (.inr (.inr (fun _ => none))))))] sz) [(mo, .inr (13, u))]) (va_A [(mo, .inr (13, [.int 0, .ref (w 0), .int 0, .ref (w 1), .int 0, .int 0, .ref (w 2), .int 0, .ref (w 3), .ref (w 4), .int 0])), ((w 0), .inl (k 5, 3, .inr (.inr (.inr (.inr (fun i => some (w (5 + i)))))))), ((w 5), .inl (k 0, 768, .inl (fun _ => 0))), ((w 6), .inl (k 0, 768, .inl (fun _ => 0))), ((w 7), .inl (k 0, 768, .inl (fun _ => 0))), ((w 1), .inl (k 6, 8, .inr (.inr (.inr (.inr (fun _ => none)))))), ((w 2), .inl (k 6, 20, .inr (.inr (.inr (.inr (fun _ => none)))))), ((w 4), .inl (k 6, 6, .inr (.inr (.inr (.inr (fun _ => none))))))] sz)) 0 0 (va_A [(mo, .inr (13, [.int 0, .ref (w 0), .int 0, .ref (w 1), .int 0, .int 0, .ref (w 2), .int 0, .ref (w 3), .ref (w 4), .int 0])), ((w 0), .inl (k 5, 3, .inr (.inr (.inr (.inr (fun i => some (w (5 + i)))))))), ((w 5), .inl (k 0, 768, .inl (fun _ => 0))), ((w 6), .inl (k 0, 768, .inl (fun _ => 0))), ((w 7), .inl (k 0, 768, .inl (fun _ => 0))), ((w 1), .inl (k 6, 8, .inr (.inr (.inr (.inr (fun _ => none)))))), ((w 2), .inl (k 6, 20, .inr (.inr (.inr (.inr (fun _ => none)))))), ((w 4), .inl (k 6, 6, .inr (.inr (.inr (.inr (fun _ => none))))))] sz) := by
  refine Met.ofW (cc := cX12_filter) (maxL := 6) (ret := (some .int)) (by decide) rfl ?_
  intro p e s m args below meth c s₁ B hml hv
  obtain ⟨rfl, rfl, hP, hC, hD0, hHf⟩ := hv
  have hx := B.exec
  have hb := B.bytes
  have hr := B.returns
  have hts := atoms_spec (ws := wsX12_filter) B.pre
  have hown : s.vm.findClass RX12 = some m.cls := findClass_of_methodNamed B.named
  have hlocks := B.notSynchronized
  have hD := hD0.self (sz := s.heap.size)
  generalize hAe : va_A [(mo, .inr (13, [.int 0, .ref (w 0), .int 0, .ref (w 1), .int 0, .int 0, .ref (w 2), .int 0, .ref (w 3), .ref (w 4), .int 0])), ((w 0), .inl (k 5, 3, .inr (.inr (.inr (.inr (fun i => some (w (5 + i)))))))), ((w 5), .inl (k 0, 768, .inl (fun _ => 0))), ((w 6), .inl (k 0, 768, .inl (fun _ => 0))), ((w 7), .inl (k 0, 768, .inl (fun _ => 0))), ((w 1), .inl (k 6, 8, .inr (.inr (.inr (.inr (fun _ => none)))))), ((w 2), .inl (k 6, 20, .inr (.inr (.inr (.inr (fun _ => none)))))), ((w 4), .inl (k 6, 6, .inr (.inr (.inr (.inr (fun _ => none))))))] s.heap.size = A at hD hHf ⊢
  have hA : ∀ q : Nat, s.heap.size ≤ q → A q := fun q h => by rw [← hAe]; exact Or.inr h
  have hS : va_S A s.heap s.heap [] := va_S.rf
  refine w_entry (Nat.le_of_ble_eq_true rfl) (fun ls hl => ?_)
  have hl : lv_has ls 6 [(0, .ref mo), (1, .int n), (2, .int kd), (3, .int x), (4, .int y)] := hl
  refine w_join (pc2 := 52) (st2 := []) (I := fun locs ls => va_S A s.heap s.heap locs ∧ ∃ r5 : Int32, True ∧ lv_has ls 6 [(0, .ref mo), (1, .int n), (2, .int kd), (3, .int x), (4, .int y), (5, .int r5)]) ?_ ?_
  · rintro locs ls ⟨hS, r5, e_r5, hl⟩
    refine lv_aload_n hx hb dX12_filter_52 rfl (lv_at hl 0 rfl) ?_
    refine lv_aload_n hx hb dX12_filter_53 rfl (lv_at hl 0 rfl) ?_
    refine lv_iload_n hx hb dX12_filter_54 rfl (lv_at hl 1 rfl) ?_
    refine pz_i (va_runV (As := [.int n]) (rest := [.ref mo]) ⟨hx, hb, hml, hown, hts⟩ (k_X12_isQuery l D k s.heap mo w n (hP.sub [0] rfl)) (cwV 1 hts gX12_filter_X12_isQuery rfl rfl rfl (by decide +kernel) ⟨Nat.le_of_ble_eq_true rfl, Nat.le_of_ble_eq_true rfl⟩) ⟨pPc_fb, va_recv hC.1 hP (ci := 13) (q0 := 0) rfl rfl, pPc_go hC⟩ rfl rfl hl.1 rfl (lv_room (Nat.le_of_ble_eq_true rfl)) dX12_filter_55 ⟨Nat.le_of_ble_eq_true rfl, Nat.le_of_ble_eq_true rfl⟩) hS (fun r1 locs hw_r1 hS => ?_)
    subst hw_r1
    refine lv_if_ne (tgt := 65) hx hb dX12_filter_58 (by decide) (fun c_58 => absurd c_58 (by decide)) (fun c_58 => ?_)
    refine lv_iconst (v := 1) hx hb dX12_filter_61 (by decide) ?_
    refine lv_goto (tgt := 88) hx hb dX12_filter_62 (by decide) ?_
    have hPc := hP.sub (ws' := [(mo, .inr (13, [.int 0, .ref (w 0), .int 0, .ref (w 1), .int 0, .int 0, .ref (w 2), .int 0, .ref (w 3), .ref (w 4), .int 0]))]) [0] rfl
    have hDc := hD.sub (ws' := [(mo, .inr (13, [.int 0, .ref (w 0), .int 0, .ref (w 1), .int 0, .int 0, .ref (w 2), .int 0, .ref (w 3), .ref (w 4), .int 0]))]) [0] (by decide) rfl
    have hFc := va_free (wc := [(mo, .inr (13, [.int 0, .ref (w 0), .int 0, .ref (w 1), .int 0, .int 0, .ref (w 2), .int 0, .ref (w 3), .ref (w 4), .int 0]))]) hD hS hA [0] rfl
    refine va_calli (va_runV (As := [.int 1]) (rest := []) ⟨hx, hb, hml, hown, hts⟩ (k_X12_fails l D k e0 s.heap.size mo w 0 1) (cwV 1 hts gX12_filter_X12_fails rfl rfl rfl (by decide +kernel) ⟨Nat.le_of_ble_eq_true rfl, Nat.le_of_ble_eq_true rfl⟩) ⟨mPc_fb, va_recv hC.1 hPc (ci := 13) (q0 := 0) rfl rfl, mPc_go hC hHf hS hPc hDc hFc⟩ rfl rfl hl.1 rfl (lv_room (Nat.le_of_ble_eq_true rfl)) dX12_filter_88 ⟨Nat.le_of_ble_eq_true rfl, Nat.le_of_ble_eq_true rfl⟩) hS (fun q9 _ h9 => hFc q9 h9) hFc (fun r3 u2 t H locs ht hvm hw_r3 hB hz1 hk1 hS => ?_)
    obtain ⟨hP1, hD1⟩ := hB
    rw [ht] at hP1
    obtain ⟨hP, hD⟩ := va_join (wr := [((w 0), .inl (k 5, 3, .inr (.inr (.inr (.inr (fun i => some (w (5 + i)))))))), ((w 5), .inl (k 0, 768, .inl (fun _ => 0))), ((w 6), .inl (k 0, 768, .inl (fun _ => 0))), ((w 7), .inl (k 0, 768, .inl (fun _ => 0))), ((w 1), .inl (k 6, 8, .inr (.inr (.inr (.inr (fun _ => none)))))), ((w 2), .inl (k 6, 20, .inr (.inr (.inr (.inr (fun _ => none)))))), ((w 4), .inl (k 6, 6, .inr (.inr (.inr (.inr (fun _ => none))))))]) (w1 := [(mo, .inr (13, [.int 1, .ref (w 0), .int 0, .ref (w 1), .int 0, .int 0, .ref (w 2), .int 0, .ref (w 3), .ref (w 4), .int 0]))]) hP hD [0] [1, 2, 3, 4, 5, 6, 7] rfl rfl (by decide) (by decide) hk1 hFc hP1 hD1
    have hP : va_P D vwCl [((w 0), .inl (k 5, 3, .inr (.inr (.inr (.inr (fun i => some (w (5 + i)))))))), ((w 5), .inl (k 0, 768, .inl (fun _ => 0))), ((w 6), .inl (k 0, 768, .inl (fun _ => 0))), ((w 7), .inl (k 0, 768, .inl (fun _ => 0))), ((w 1), .inl (k 6, 8, .inr (.inr (.inr (.inr (fun _ => none)))))), ((w 2), .inl (k 6, 20, .inr (.inr (.inr (.inr (fun _ => none)))))), ((w 4), .inl (k 6, 6, .inr (.inr (.inr (.inr (fun _ => none)))))), (mo, .inr (13, [.int 1, .ref (w 0), .int 0, .ref (w 1), .int 0, .int 0, .ref (w 2), .int 0, .ref (w 3), .ref (w 4), .int 0]))] H := hP
    have hD : va_D A [((w 0), .inl (k 5, 3, .inr (.inr (.inr (.inr (fun i => some (w (5 + i)))))))), ((w 5), .inl (k 0, 768, .inl (fun _ => 0))), ((w 6), .inl (k 0, 768, .inl (fun _ => 0))), ((w 7), .inl (k 0, 768, .inl (fun _ => 0))), ((w 1), .inl (k 6, 8, .inr (.inr (.inr (.inr (fun _ => none)))))), ((w 2), .inl (k 6, 20, .inr (.inr (.inr (.inr (fun _ => none)))))), ((w 4), .inl (k 6, 6, .inr (.inr (.inr (.inr (fun _ => none)))))), (mo, .inr (13, [.int 1, .ref (w 0), .int 0, .ref (w 1), .int 0, .int 0, .ref (w 2), .int 0, .ref (w 3), .ref (w 4), .int 0]))] := hD
    have e_r3 : r3 = 1 := hw_r3.trans (by decide)
    subst e_r3
    refine lv_if_eq (tgt := 98) hx hb dX12_filter_91 (by decide) (fun c_91 => absurd c_91 (by decide)) (fun c_91 => ?_)
    refine lv_iconst (v := 0) hx hb dX12_filter_94 (by decide) ?_
    refine lv_goto (tgt := 127) hx hb dX12_filter_95 (by decide) ?_
    exact W.iret (v := 0) hx hb hr (fun t ht hW => ⟨⟨0, [.int 1, .ref (w 0), .int 0, .ref (w 1), .int 0, .int 0, .ref (w 2), .int 0, .ref (w 3), .ref (w 4), .int 0], rfl, rfl, ⟨by rw [ht]; exact hP.sub [7] rfl, hD.sub [7] (by decide) rfl⟩⟩, hS.F ht⟩) hS.2.2 dX12_filter_127
  · intro hj_r5
    refine lv_iload_n hx hb dX12_filter_0 rfl (lv_at hl 2 rfl) ?_
    refine lv_bipush (v := 61) hx hb dX12_filter_1 (by decide) ?_
    refine lv_icmp_eq (tgt := 24) hx hb dX12_filter_3 (by decide) (fun c_3 => ?_) (fun c_3 => ?_)
    · have g_3 : kd.toInt = 61 := congrArg Int32.toInt c_3
      refine lv_iload_n hx hb dX12_filter_24 rfl (lv_at hl 3 rfl) ?_
      refine pz_i (va_runS (As := [.int x]) (rest := []) ⟨hx, hb, hml, hown, hts⟩ (k_X12_isPlace l D k s.heap x) (va_cwS 1 hts gX12_filter_X12_isPlace rfl rfl rfl (by decide +kernel) ⟨Nat.le_of_ble_eq_true rfl, Nat.le_of_ble_eq_true rfl⟩) ⟨pPc_fb, pPc_go hC⟩ rfl rfl hl.1 rfl (lv_room (Nat.le_of_ble_eq_true rfl)) dX12_filter_25 ⟨Nat.le_of_ble_eq_true rfl, Nat.le_of_ble_eq_true rfl⟩) hS (fun r5 locs hw_r5 hS => ?_)
      refine lv_if_eq (tgt := 49) hx hb dX12_filter_28 (by decide) (fun c_28 => ?_) (fun c_28 => ?_)
      · have f_28 := bi_z hw_r5 c_28
        refine lv_iconst (v := 0) hx hb dX12_filter_49 (by decide) ?_
        refine lv_istore (lv' := [(5, .int 0), (0, .ref mo), (1, .int n), (2, .int kd), (3, .int x), (4, .int y)]) hx hb dX12_filter_50 hl (by decide) rfl (fun ls hl => ?_)
        exact hj_r5 _ _ ⟨hS, _, trivial, lv_sub hl [1, 2, 3, 4, 5, 0] rfl⟩
      · have f_28 := bi_n hw_r5 c_28
        refine lv_iload_n hx hb dX12_filter_31 rfl (lv_at hl 2 rfl) ?_
        refine lv_bipush (v := 98) hx hb dX12_filter_32 (by decide) ?_
        refine lv_icmp_eq (tgt := 45) hx hb dX12_filter_34 (by decide) (fun c_34 => ?_) (fun c_34 => ?_)
        · have g_34 : kd.toInt = 98 := congrArg Int32.toInt c_34
          refine lv_iconst (v := 1) hx hb dX12_filter_45 (by decide) ?_
          refine lv_goto (tgt := 50) hx hb dX12_filter_46 (by decide) ?_
          refine lv_istore (lv' := [(5, .int 1), (0, .ref mo), (1, .int n), (2, .int kd), (3, .int x), (4, .int y)]) hx hb dX12_filter_50 hl (by decide) rfl (fun ls hl => ?_)
          exact hj_r5 _ _ ⟨hS, _, trivial, lv_sub hl [1, 2, 3, 4, 5, 0] rfl⟩
        · have g_34 : ¬ kd.toInt = 98 := fun q9 => c_34 (Int32.toInt_inj.mp q9)
          refine lv_iload hx hb dX12_filter_37 (lv_at hl 4 rfl) ?_
          refine pz_i (va_runS (As := [.int y]) (rest := []) ⟨hx, hb, hml, hown, hts⟩ (k_X12_isPlace l D k s.heap y) (va_cwS 1 hts gX12_filter_X12_isPlace rfl rfl rfl (by decide +kernel) ⟨Nat.le_of_ble_eq_true rfl, Nat.le_of_ble_eq_true rfl⟩) ⟨pPc_fb, pPc_go hC⟩ rfl rfl hl.1 rfl (lv_room (Nat.le_of_ble_eq_true rfl)) dX12_filter_39 ⟨Nat.le_of_ble_eq_true rfl, Nat.le_of_ble_eq_true rfl⟩) hS (fun r6 locs hw_r6 hS => ?_)
          refine lv_if_eq (tgt := 49) hx hb dX12_filter_42 (by decide) (fun c_42 => ?_) (fun c_42 => ?_)
          · have f_42 := bi_z hw_r6 c_42
            refine lv_iconst (v := 0) hx hb dX12_filter_49 (by decide) ?_
            refine lv_istore (lv' := [(5, .int 0), (0, .ref mo), (1, .int n), (2, .int kd), (3, .int x), (4, .int y)]) hx hb dX12_filter_50 hl (by decide) rfl (fun ls hl => ?_)
            exact hj_r5 _ _ ⟨hS, _, trivial, lv_sub hl [1, 2, 3, 4, 5, 0] rfl⟩
          · have f_42 := bi_n hw_r6 c_42
            refine lv_iconst (v := 1) hx hb dX12_filter_45 (by decide) ?_
            refine lv_goto (tgt := 50) hx hb dX12_filter_46 (by decide) ?_
            refine lv_istore (lv' := [(5, .int 1), (0, .ref mo), (1, .int n), (2, .int kd), (3, .int x), (4, .int y)]) hx hb dX12_filter_50 hl (by decide) rfl (fun ls hl => ?_)
            exact hj_r5 _ _ ⟨hS, _, trivial, lv_sub hl [1, 2, 3, 4, 5, 0] rfl⟩
    · have g_3 : ¬ kd.toInt = 61 := fun q9 => c_3 (Int32.toInt_inj.mp q9)
      refine lv_iload_n hx hb dX12_filter_6 rfl (lv_at hl 2 rfl) ?_
      refine lv_bipush (v := 33) hx hb dX12_filter_7 (by decide) ?_
      refine lv_icmp_eq (tgt := 24) hx hb dX12_filter_9 (by decide) (fun c_9 => ?_) (fun c_9 => ?_)
      · have g_9 : kd.toInt = 33 := congrArg Int32.toInt c_9
        refine lv_iload_n hx hb dX12_filter_24 rfl (lv_at hl 3 rfl) ?_
        refine pz_i (va_runS (As := [.int x]) (rest := []) ⟨hx, hb, hml, hown, hts⟩ (k_X12_isPlace l D k s.heap x) (va_cwS 1 hts gX12_filter_X12_isPlace rfl rfl rfl (by decide +kernel) ⟨Nat.le_of_ble_eq_true rfl, Nat.le_of_ble_eq_true rfl⟩) ⟨pPc_fb, pPc_go hC⟩ rfl rfl hl.1 rfl (lv_room (Nat.le_of_ble_eq_true rfl)) dX12_filter_25 ⟨Nat.le_of_ble_eq_true rfl, Nat.le_of_ble_eq_true rfl⟩) hS (fun r7 locs hw_r7 hS => ?_)
        refine lv_if_eq (tgt := 49) hx hb dX12_filter_28 (by decide) (fun c_28 => ?_) (fun c_28 => ?_)
        · have f_28 := bi_z hw_r7 c_28
          refine lv_iconst (v := 0) hx hb dX12_filter_49 (by decide) ?_
          refine lv_istore (lv' := [(5, .int 0), (0, .ref mo), (1, .int n), (2, .int kd), (3, .int x), (4, .int y)]) hx hb dX12_filter_50 hl (by decide) rfl (fun ls hl => ?_)
          exact hj_r5 _ _ ⟨hS, _, trivial, lv_sub hl [1, 2, 3, 4, 5, 0] rfl⟩
        · have f_28 := bi_n hw_r7 c_28
          refine lv_iload_n hx hb dX12_filter_31 rfl (lv_at hl 2 rfl) ?_
          refine lv_bipush (v := 98) hx hb dX12_filter_32 (by decide) ?_
          refine lv_icmp_eq (tgt := 45) hx hb dX12_filter_34 (by decide) (fun c_34 => ?_) (fun c_34 => ?_)
          · have g_34 : kd.toInt = 98 := congrArg Int32.toInt c_34
            refine lv_iconst (v := 1) hx hb dX12_filter_45 (by decide) ?_
            refine lv_goto (tgt := 50) hx hb dX12_filter_46 (by decide) ?_
            refine lv_istore (lv' := [(5, .int 1), (0, .ref mo), (1, .int n), (2, .int kd), (3, .int x), (4, .int y)]) hx hb dX12_filter_50 hl (by decide) rfl (fun ls hl => ?_)
            exact hj_r5 _ _ ⟨hS, _, trivial, lv_sub hl [1, 2, 3, 4, 5, 0] rfl⟩
          · have g_34 : ¬ kd.toInt = 98 := fun q9 => c_34 (Int32.toInt_inj.mp q9)
            refine lv_iload hx hb dX12_filter_37 (lv_at hl 4 rfl) ?_
            refine pz_i (va_runS (As := [.int y]) (rest := []) ⟨hx, hb, hml, hown, hts⟩ (k_X12_isPlace l D k s.heap y) (va_cwS 1 hts gX12_filter_X12_isPlace rfl rfl rfl (by decide +kernel) ⟨Nat.le_of_ble_eq_true rfl, Nat.le_of_ble_eq_true rfl⟩) ⟨pPc_fb, pPc_go hC⟩ rfl rfl hl.1 rfl (lv_room (Nat.le_of_ble_eq_true rfl)) dX12_filter_39 ⟨Nat.le_of_ble_eq_true rfl, Nat.le_of_ble_eq_true rfl⟩) hS (fun r8 locs hw_r8 hS => ?_)
            refine lv_if_eq (tgt := 49) hx hb dX12_filter_42 (by decide) (fun c_42 => ?_) (fun c_42 => ?_)
            · have f_42 := bi_z hw_r8 c_42
              refine lv_iconst (v := 0) hx hb dX12_filter_49 (by decide) ?_
              refine lv_istore (lv' := [(5, .int 0), (0, .ref mo), (1, .int n), (2, .int kd), (3, .int x), (4, .int y)]) hx hb dX12_filter_50 hl (by decide) rfl (fun ls hl => ?_)
              exact hj_r5 _ _ ⟨hS, _, trivial, lv_sub hl [1, 2, 3, 4, 5, 0] rfl⟩
            · have f_42 := bi_n hw_r8 c_42
              refine lv_iconst (v := 1) hx hb dX12_filter_45 (by decide) ?_
              refine lv_goto (tgt := 50) hx hb dX12_filter_46 (by decide) ?_
              refine lv_istore (lv' := [(5, .int 1), (0, .ref mo), (1, .int n), (2, .int kd), (3, .int x), (4, .int y)]) hx hb dX12_filter_50 hl (by decide) rfl (fun ls hl => ?_)
              exact hj_r5 _ _ ⟨hS, _, trivial, lv_sub hl [1, 2, 3, 4, 5, 0] rfl⟩
      · have g_9 : ¬ kd.toInt = 33 := fun q9 => c_9 (Int32.toInt_inj.mp q9)
        refine lv_iload_n hx hb dX12_filter_12 rfl (lv_at hl 2 rfl) ?_
        refine lv_bipush (v := 60) hx hb dX12_filter_13 (by decide) ?_
        refine lv_icmp_eq (tgt := 24) hx hb dX12_filter_15 (by decide) (fun c_15 => ?_) (fun c_15 => ?_)
        · have g_15 : kd.toInt = 60 := congrArg Int32.toInt c_15
          refine lv_iload_n hx hb dX12_filter_24 rfl (lv_at hl 3 rfl) ?_
          refine pz_i (va_runS (As := [.int x]) (rest := []) ⟨hx, hb, hml, hown, hts⟩ (k_X12_isPlace l D k s.heap x) (va_cwS 1 hts gX12_filter_X12_isPlace rfl rfl rfl (by decide +kernel) ⟨Nat.le_of_ble_eq_true rfl, Nat.le_of_ble_eq_true rfl⟩) ⟨pPc_fb, pPc_go hC⟩ rfl rfl hl.1 rfl (lv_room (Nat.le_of_ble_eq_true rfl)) dX12_filter_25 ⟨Nat.le_of_ble_eq_true rfl, Nat.le_of_ble_eq_true rfl⟩) hS (fun r9 locs hw_r9 hS => ?_)
          refine lv_if_eq (tgt := 49) hx hb dX12_filter_28 (by decide) (fun c_28 => ?_) (fun c_28 => ?_)
          · have f_28 := bi_z hw_r9 c_28
            refine lv_iconst (v := 0) hx hb dX12_filter_49 (by decide) ?_
            refine lv_istore (lv' := [(5, .int 0), (0, .ref mo), (1, .int n), (2, .int kd), (3, .int x), (4, .int y)]) hx hb dX12_filter_50 hl (by decide) rfl (fun ls hl => ?_)
            exact hj_r5 _ _ ⟨hS, _, trivial, lv_sub hl [1, 2, 3, 4, 5, 0] rfl⟩
          · have f_28 := bi_n hw_r9 c_28
            refine lv_iload_n hx hb dX12_filter_31 rfl (lv_at hl 2 rfl) ?_
            refine lv_bipush (v := 98) hx hb dX12_filter_32 (by decide) ?_
            refine lv_icmp_eq (tgt := 45) hx hb dX12_filter_34 (by decide) (fun c_34 => ?_) (fun c_34 => ?_)
            · have g_34 : kd.toInt = 98 := congrArg Int32.toInt c_34
              refine lv_iconst (v := 1) hx hb dX12_filter_45 (by decide) ?_
              refine lv_goto (tgt := 50) hx hb dX12_filter_46 (by decide) ?_
              refine lv_istore (lv' := [(5, .int 1), (0, .ref mo), (1, .int n), (2, .int kd), (3, .int x), (4, .int y)]) hx hb dX12_filter_50 hl (by decide) rfl (fun ls hl => ?_)
              exact hj_r5 _ _ ⟨hS, _, trivial, lv_sub hl [1, 2, 3, 4, 5, 0] rfl⟩
            · have g_34 : ¬ kd.toInt = 98 := fun q9 => c_34 (Int32.toInt_inj.mp q9)
              refine lv_iload hx hb dX12_filter_37 (lv_at hl 4 rfl) ?_
              refine pz_i (va_runS (As := [.int y]) (rest := []) ⟨hx, hb, hml, hown, hts⟩ (k_X12_isPlace l D k s.heap y) (va_cwS 1 hts gX12_filter_X12_isPlace rfl rfl rfl (by decide +kernel) ⟨Nat.le_of_ble_eq_true rfl, Nat.le_of_ble_eq_true rfl⟩) ⟨pPc_fb, pPc_go hC⟩ rfl rfl hl.1 rfl (lv_room (Nat.le_of_ble_eq_true rfl)) dX12_filter_39 ⟨Nat.le_of_ble_eq_true rfl, Nat.le_of_ble_eq_true rfl⟩) hS (fun r10 locs hw_r10 hS => ?_)
              refine lv_if_eq (tgt := 49) hx hb dX12_filter_42 (by decide) (fun c_42 => ?_) (fun c_42 => ?_)
              · have f_42 := bi_z hw_r10 c_42
                refine lv_iconst (v := 0) hx hb dX12_filter_49 (by decide) ?_
                refine lv_istore (lv' := [(5, .int 0), (0, .ref mo), (1, .int n), (2, .int kd), (3, .int x), (4, .int y)]) hx hb dX12_filter_50 hl (by decide) rfl (fun ls hl => ?_)
                exact hj_r5 _ _ ⟨hS, _, trivial, lv_sub hl [1, 2, 3, 4, 5, 0] rfl⟩
              · have f_42 := bi_n hw_r10 c_42
                refine lv_iconst (v := 1) hx hb dX12_filter_45 (by decide) ?_
                refine lv_goto (tgt := 50) hx hb dX12_filter_46 (by decide) ?_
                refine lv_istore (lv' := [(5, .int 1), (0, .ref mo), (1, .int n), (2, .int kd), (3, .int x), (4, .int y)]) hx hb dX12_filter_50 hl (by decide) rfl (fun ls hl => ?_)
                exact hj_r5 _ _ ⟨hS, _, trivial, lv_sub hl [1, 2, 3, 4, 5, 0] rfl⟩
        · have g_15 : ¬ kd.toInt = 60 := fun q9 => c_15 (Int32.toInt_inj.mp q9)
          refine lv_iload_n hx hb dX12_filter_18 rfl (lv_at hl 2 rfl) ?_
          refine lv_bipush (v := 98) hx hb dX12_filter_19 (by decide) ?_
          refine lv_icmp_ne (tgt := 49) hx hb dX12_filter_21 (by decide) (fun c_21 => ?_) (fun c_21 => ?_)
          · have g_21 : ¬ kd.toInt = 98 := fun q9 => c_21 (Int32.toInt_inj.mp q9)
            refine lv_iconst (v := 0) hx hb dX12_filter_49 (by decide) ?_
            refine lv_istore (lv' := [(5, .int 0), (0, .ref mo), (1, .int n), (2, .int kd), (3, .int x), (4, .int y)]) hx hb dX12_filter_50 hl (by decide) rfl (fun ls hl => ?_)
            exact hj_r5 _ _ ⟨hS, _, trivial, lv_sub hl [1, 2, 3, 4, 5, 0] rfl⟩
          · have g_21 : kd.toInt = 98 := congrArg Int32.toInt c_21
            refine lv_iload_n hx hb dX12_filter_24 rfl (lv_at hl 3 rfl) ?_
            refine pz_i (va_runS (As := [.int x]) (rest := []) ⟨hx, hb, hml, hown, hts⟩ (k_X12_isPlace l D k s.heap x) (va_cwS 1 hts gX12_filter_X12_isPlace rfl rfl rfl (by decide +kernel) ⟨Nat.le_of_ble_eq_true rfl, Nat.le_of_ble_eq_true rfl⟩) ⟨pPc_fb, pPc_go hC⟩ rfl rfl hl.1 rfl (lv_room (Nat.le_of_ble_eq_true rfl)) dX12_filter_25 ⟨Nat.le_of_ble_eq_true rfl, Nat.le_of_ble_eq_true rfl⟩) hS (fun r11 locs hw_r11 hS => ?_)
            refine lv_if_eq (tgt := 49) hx hb dX12_filter_28 (by decide) (fun c_28 => ?_) (fun c_28 => ?_)
            · have f_28 := bi_z hw_r11 c_28
              refine lv_iconst (v := 0) hx hb dX12_filter_49 (by decide) ?_
              refine lv_istore (lv' := [(5, .int 0), (0, .ref mo), (1, .int n), (2, .int kd), (3, .int x), (4, .int y)]) hx hb dX12_filter_50 hl (by decide) rfl (fun ls hl => ?_)
              exact hj_r5 _ _ ⟨hS, _, trivial, lv_sub hl [1, 2, 3, 4, 5, 0] rfl⟩
            · have f_28 := bi_n hw_r11 c_28
              refine lv_iload_n hx hb dX12_filter_31 rfl (lv_at hl 2 rfl) ?_
              refine lv_bipush (v := 98) hx hb dX12_filter_32 (by decide) ?_
              refine lv_icmp_eq (tgt := 45) hx hb dX12_filter_34 (by decide) (fun c_34 => ?_) (fun c_34 => ?_)
              · have g_34 : kd.toInt = 98 := congrArg Int32.toInt c_34
                refine lv_iconst (v := 1) hx hb dX12_filter_45 (by decide) ?_
                refine lv_goto (tgt := 50) hx hb dX12_filter_46 (by decide) ?_
                refine lv_istore (lv' := [(5, .int 1), (0, .ref mo), (1, .int n), (2, .int kd), (3, .int x), (4, .int y)]) hx hb dX12_filter_50 hl (by decide) rfl (fun ls hl => ?_)
                exact hj_r5 _ _ ⟨hS, _, trivial, lv_sub hl [1, 2, 3, 4, 5, 0] rfl⟩
              · have g_34 : ¬ kd.toInt = 98 := fun q9 => c_34 (Int32.toInt_inj.mp q9)
                refine lv_iload hx hb dX12_filter_37 (lv_at hl 4 rfl) ?_
                refine pz_i (va_runS (As := [.int y]) (rest := []) ⟨hx, hb, hml, hown, hts⟩ (k_X12_isPlace l D k s.heap y) (va_cwS 1 hts gX12_filter_X12_isPlace rfl rfl rfl (by decide +kernel) ⟨Nat.le_of_ble_eq_true rfl, Nat.le_of_ble_eq_true rfl⟩) ⟨pPc_fb, pPc_go hC⟩ rfl rfl hl.1 rfl (lv_room (Nat.le_of_ble_eq_true rfl)) dX12_filter_39 ⟨Nat.le_of_ble_eq_true rfl, Nat.le_of_ble_eq_true rfl⟩) hS (fun r12 locs hw_r12 hS => ?_)
                refine lv_if_eq (tgt := 49) hx hb dX12_filter_42 (by decide) (fun c_42 => ?_) (fun c_42 => ?_)
                · have f_42 := bi_z hw_r12 c_42
                  refine lv_iconst (v := 0) hx hb dX12_filter_49 (by decide) ?_
                  refine lv_istore (lv' := [(5, .int 0), (0, .ref mo), (1, .int n), (2, .int kd), (3, .int x), (4, .int y)]) hx hb dX12_filter_50 hl (by decide) rfl (fun ls hl => ?_)
                  exact hj_r5 _ _ ⟨hS, _, trivial, lv_sub hl [1, 2, 3, 4, 5, 0] rfl⟩
                · have f_42 := bi_n hw_r12 c_42
                  refine lv_iconst (v := 1) hx hb dX12_filter_45 (by decide) ?_
                  refine lv_goto (tgt := 50) hx hb dX12_filter_46 (by decide) ?_
                  refine lv_istore (lv' := [(5, .int 1), (0, .ref mo), (1, .int n), (2, .int kd), (3, .int x), (4, .int y)]) hx hb dX12_filter_50 hl (by decide) rfl (fun ls hl => ?_)
                  exact hj_r5 _ _ ⟨hS, _, trivial, lv_sub hl [1, 2, 3, 4, 5, 0] rfl⟩

set_option maxHeartbeats 4000000 in
set_option maxRecDepth 100000 in
theorem k_X12_single_ (l : Launch) (D : va_G) (k : Nat → ClassId) (e0 : Nat) (sz : Nat) (mo : Nat) (w : Nat → Nat) (n : Int32) : Met l yX12_single_ wsX12_single_ ({ frames := 2, cells := 0, slots := 0, locals := 43 }) (mPc D k e0 sz [.ref mo, .int n] [(mo, .inr (13, [.int 0, .ref (w 0), .int 0, .ref (w 1), .int 0, .int 0, .ref (w 2), .int 0, .ref (w 3), .ref (w 4), .int 0])), ((w 0), .inl (k 5, 3, .inr (.inr (.inr (.inr (fun i => some (w (5 + i)))))))), ((w 5), .inl (k 0, 768, .inl (fun _ => 0))), ((w 6), .inl (k 0, 768, .inl (fun _ => 0))), ((w 7), .inl (k 0, 768, .inl (fun _ => 0))), ((w 1), .inl (k 6, 8, .inr (.inr (.inr (.inr (fun _ => none)))))), ((w 2), .inl (k 6, 20, .inr (.inr (.inr (.inr (fun _ => none)))))), ((w 4), .inl (k 6, 6, .inr (.inr (.inr (.inr (fun _ => none))))))]) (va_Qi (fun r (u : List Value) => u[0]? = some (.int 1)) (fun u t => va_P D vwCl [(mo, .inr (13, u))] t.heap ∧ va_D (va_A [(mo, .inr (13, [.int 0, .ref (w 0), .int 0, .ref (w 1), .int 0, .int 0, .ref (w 2), .int 0, .ref (w 3), .ref (w 4), .int 0])), ((w 0), .inl (k 5, 3, .inr (.inr (.inr (.inr (fun i => some (w (5 + i)))))))), ((w 5), .inl (k 0, 768, .inl (fun _ => 0))), ((w 6), .inl (k 0, 768, .inl (fun _ => 0))), ((w 7), .inl (k 0, 768, .inl (fun _ => 0))), ((w 1), .inl (k 6, 8, .inr (.inr (.inr (.inr (fun _ => none)))))), ((w 2), .inl (k 6, 20, .inr (.inr (.inr (.inr (fun _ => none)))))), ((w 4), .inl (k 6, 6, .inr (.inr (.inr (.inr (fun _ => none))))))] sz) [(mo, .inr (13, u))]) (va_A [(mo, .inr (13, [.int 0, .ref (w 0), .int 0, .ref (w 1), .int 0, .int 0, .ref (w 2), .int 0, .ref (w 3), .ref (w 4), .int 0])), ((w 0), .inl (k 5, 3, .inr (.inr (.inr (.inr (fun i => some (w (5 + i)))))))), ((w 5), .inl (k 0, 768, .inl (fun _ => 0))), ((w 6), .inl (k 0, 768, .inl (fun _ => 0))), ((w 7), .inl (k 0, 768, .inl (fun _ => 0))), ((w 1), .inl (k 6, 8, .inr (.inr (.inr (.inr (fun _ => none)))))), ((w 2), .inl (k 6, 20, .inr (.inr (.inr (.inr (fun _ => none)))))), ((w 4), .inl (k 6, 6, .inr (.inr (.inr (.inr (fun _ => none))))))] sz)) 0 0 (va_A [(mo, .inr (13, [.int 0, .ref (w 0), .int 0, .ref (w 1), .int 0, .int 0, .ref (w 2), .int 0, .ref (w 3), .ref (w 4), .int 0])), ((w 0), .inl (k 5, 3, .inr (.inr (.inr (.inr (fun i => some (w (5 + i)))))))), ((w 5), .inl (k 0, 768, .inl (fun _ => 0))), ((w 6), .inl (k 0, 768, .inl (fun _ => 0))), ((w 7), .inl (k 0, 768, .inl (fun _ => 0))), ((w 1), .inl (k 6, 8, .inr (.inr (.inr (.inr (fun _ => none)))))), ((w 2), .inl (k 6, 20, .inr (.inr (.inr (.inr (fun _ => none)))))), ((w 4), .inl (k 6, 6, .inr (.inr (.inr (.inr (fun _ => none))))))] sz) := by
  refine Met.ofW (cc := cX12_single_) (maxL := 2) (ret := (some .int)) (by decide) rfl ?_
  intro p e s m args below meth c s₁ B hml hv
  obtain ⟨rfl, rfl, hP, hC, hD0, hHf⟩ := hv
  have hx := B.exec
  have hb := B.bytes
  have hr := B.returns
  have hts := atoms_spec (ws := wsX12_single_) B.pre
  have hown : s.vm.findClass RX12 = some m.cls := findClass_of_methodNamed B.named
  have hlocks := B.notSynchronized
  have hD := hD0.self (sz := s.heap.size)
  generalize hAe : va_A [(mo, .inr (13, [.int 0, .ref (w 0), .int 0, .ref (w 1), .int 0, .int 0, .ref (w 2), .int 0, .ref (w 3), .ref (w 4), .int 0])), ((w 0), .inl (k 5, 3, .inr (.inr (.inr (.inr (fun i => some (w (5 + i)))))))), ((w 5), .inl (k 0, 768, .inl (fun _ => 0))), ((w 6), .inl (k 0, 768, .inl (fun _ => 0))), ((w 7), .inl (k 0, 768, .inl (fun _ => 0))), ((w 1), .inl (k 6, 8, .inr (.inr (.inr (.inr (fun _ => none)))))), ((w 2), .inl (k 6, 20, .inr (.inr (.inr (.inr (fun _ => none)))))), ((w 4), .inl (k 6, 6, .inr (.inr (.inr (.inr (fun _ => none))))))] s.heap.size = A at hD hHf ⊢
  have hA : ∀ q : Nat, s.heap.size ≤ q → A q := fun q h => by rw [← hAe]; exact Or.inr h
  have hS : va_S A s.heap s.heap [] := va_S.rf
  refine w_entry (Nat.le_of_ble_eq_true rfl) (fun ls hl => ?_)
  have hl : lv_has ls 2 [(0, .ref mo), (1, .int n)] := hl
  refine lv_aload_n hx hb dX12_single__0 rfl (lv_at hl 0 rfl) ?_
  refine lv_aload_n hx hb dX12_single__1 rfl (lv_at hl 0 rfl) ?_
  refine lv_iload_n hx hb dX12_single__2 rfl (lv_at hl 1 rfl) ?_
  refine pz_i (va_runV (As := [.int n]) (rest := [.ref mo]) ⟨hx, hb, hml, hown, hts⟩ (k_X12_isQuery l D k s.heap mo w n (hP.sub [0] rfl)) (cwV 1 hts gX12_single__X12_isQuery rfl rfl rfl (by decide +kernel) ⟨Nat.le_of_ble_eq_true rfl, Nat.le_of_ble_eq_true rfl⟩) ⟨pPc_fb, va_recv hC.1 hP (ci := 13) (q0 := 0) rfl rfl, pPc_go hC⟩ rfl rfl hl.1 rfl (lv_room (Nat.le_of_ble_eq_true rfl)) dX12_single__3 ⟨Nat.le_of_ble_eq_true rfl, Nat.le_of_ble_eq_true rfl⟩) hS (fun r1 locs hw_r1 hS => ?_)
  subst hw_r1
  refine lv_if_ne (tgt := 13) hx hb dX12_single__6 (by decide) (fun c_6 => absurd c_6 (by decide)) (fun c_6 => ?_)
  refine lv_iconst (v := 1) hx hb dX12_single__9 (by decide) ?_
  refine lv_goto (tgt := 27) hx hb dX12_single__10 (by decide) ?_
  have hPc := hP.sub (ws' := [(mo, .inr (13, [.int 0, .ref (w 0), .int 0, .ref (w 1), .int 0, .int 0, .ref (w 2), .int 0, .ref (w 3), .ref (w 4), .int 0]))]) [0] rfl
  have hDc := hD.sub (ws' := [(mo, .inr (13, [.int 0, .ref (w 0), .int 0, .ref (w 1), .int 0, .int 0, .ref (w 2), .int 0, .ref (w 3), .ref (w 4), .int 0]))]) [0] (by decide) rfl
  have hFc := va_free (wc := [(mo, .inr (13, [.int 0, .ref (w 0), .int 0, .ref (w 1), .int 0, .int 0, .ref (w 2), .int 0, .ref (w 3), .ref (w 4), .int 0]))]) hD hS hA [0] rfl
  refine va_calli (va_runV (As := [.int 1]) (rest := []) ⟨hx, hb, hml, hown, hts⟩ (k_X12_fails l D k e0 s.heap.size mo w 0 1) (cwV 1 hts gX12_single__X12_fails rfl rfl rfl (by decide +kernel) ⟨Nat.le_of_ble_eq_true rfl, Nat.le_of_ble_eq_true rfl⟩) ⟨mPc_fb, va_recv hC.1 hPc (ci := 13) (q0 := 0) rfl rfl, mPc_go hC hHf hS hPc hDc hFc⟩ rfl rfl hl.1 rfl (lv_room (Nat.le_of_ble_eq_true rfl)) dX12_single__27 ⟨Nat.le_of_ble_eq_true rfl, Nat.le_of_ble_eq_true rfl⟩) hS (fun q9 _ h9 => hFc q9 h9) hFc (fun r3 u2 t H locs ht hvm hw_r3 hB hz1 hk1 hS => ?_)
  obtain ⟨hP1, hD1⟩ := hB
  rw [ht] at hP1
  obtain ⟨hP, hD⟩ := va_join (wr := [((w 0), .inl (k 5, 3, .inr (.inr (.inr (.inr (fun i => some (w (5 + i)))))))), ((w 5), .inl (k 0, 768, .inl (fun _ => 0))), ((w 6), .inl (k 0, 768, .inl (fun _ => 0))), ((w 7), .inl (k 0, 768, .inl (fun _ => 0))), ((w 1), .inl (k 6, 8, .inr (.inr (.inr (.inr (fun _ => none)))))), ((w 2), .inl (k 6, 20, .inr (.inr (.inr (.inr (fun _ => none)))))), ((w 4), .inl (k 6, 6, .inr (.inr (.inr (.inr (fun _ => none))))))]) (w1 := [(mo, .inr (13, [.int 1, .ref (w 0), .int 0, .ref (w 1), .int 0, .int 0, .ref (w 2), .int 0, .ref (w 3), .ref (w 4), .int 0]))]) hP hD [0] [1, 2, 3, 4, 5, 6, 7] rfl rfl (by decide) (by decide) hk1 hFc hP1 hD1
  have hP : va_P D vwCl [((w 0), .inl (k 5, 3, .inr (.inr (.inr (.inr (fun i => some (w (5 + i)))))))), ((w 5), .inl (k 0, 768, .inl (fun _ => 0))), ((w 6), .inl (k 0, 768, .inl (fun _ => 0))), ((w 7), .inl (k 0, 768, .inl (fun _ => 0))), ((w 1), .inl (k 6, 8, .inr (.inr (.inr (.inr (fun _ => none)))))), ((w 2), .inl (k 6, 20, .inr (.inr (.inr (.inr (fun _ => none)))))), ((w 4), .inl (k 6, 6, .inr (.inr (.inr (.inr (fun _ => none)))))), (mo, .inr (13, [.int 1, .ref (w 0), .int 0, .ref (w 1), .int 0, .int 0, .ref (w 2), .int 0, .ref (w 3), .ref (w 4), .int 0]))] H := hP
  have hD : va_D A [((w 0), .inl (k 5, 3, .inr (.inr (.inr (.inr (fun i => some (w (5 + i)))))))), ((w 5), .inl (k 0, 768, .inl (fun _ => 0))), ((w 6), .inl (k 0, 768, .inl (fun _ => 0))), ((w 7), .inl (k 0, 768, .inl (fun _ => 0))), ((w 1), .inl (k 6, 8, .inr (.inr (.inr (.inr (fun _ => none)))))), ((w 2), .inl (k 6, 20, .inr (.inr (.inr (.inr (fun _ => none)))))), ((w 4), .inl (k 6, 6, .inr (.inr (.inr (.inr (fun _ => none)))))), (mo, .inr (13, [.int 1, .ref (w 0), .int 0, .ref (w 1), .int 0, .int 0, .ref (w 2), .int 0, .ref (w 3), .ref (w 4), .int 0]))] := hD
  have e_r3 : r3 = 1 := hw_r3.trans (by decide)
  subst e_r3
  refine lv_if_eq (tgt := 37) hx hb dX12_single__30 (by decide) (fun c_30 => absurd c_30 (by decide)) (fun c_30 => ?_)
  refine lv_iconst (v := 0) hx hb dX12_single__33 (by decide) ?_
  refine lv_goto (tgt := 53) hx hb dX12_single__34 (by decide) ?_
  exact W.iret (v := 0) hx hb hr (fun t ht hW => ⟨⟨0, [.int 1, .ref (w 0), .int 0, .ref (w 1), .int 0, .int 0, .ref (w 2), .int 0, .ref (w 3), .ref (w 4), .int 0], rfl, rfl, ⟨by rw [ht]; exact hP.sub [7] rfl, hD.sub [7] (by decide) rfl⟩⟩, hS.F ht⟩) hS.2.2 dX12_single__53

set_option maxHeartbeats 4000000 in
set_option maxRecDepth 100000 in
theorem k_X12_row (l : Launch) (D : va_G) (k : Nat → ClassId) (e0 : Nat) (sz : Nat) (mo : Nat) (w : Nat → Nat) (n x y : Int32) : Met l yX12_row wsX12_row ({ frames := 2, cells := 0, slots := 0, locals := 43 }) (mPc D k e0 sz [.ref mo, .int n, .int x, .int y] [(mo, .inr (13, [.int 0, .ref (w 0), .int 0, .ref (w 1), .int 0, .int 0, .ref (w 2), .int 0, .ref (w 3), .ref (w 4), .int 0])), ((w 0), .inl (k 5, 3, .inr (.inr (.inr (.inr (fun i => some (w (5 + i)))))))), ((w 5), .inl (k 0, 768, .inl (fun _ => 0))), ((w 6), .inl (k 0, 768, .inl (fun _ => 0))), ((w 7), .inl (k 0, 768, .inl (fun _ => 0))), ((w 1), .inl (k 6, 8, .inr (.inr (.inr (.inr (fun _ => none)))))), ((w 2), .inl (k 6, 20, .inr (.inr (.inr (.inr (fun _ => none)))))), ((w 4), .inl (k 6, 6, .inr (.inr (.inr (.inr (fun _ => none))))))]) (va_Qi (fun r (u : List Value) => u[0]? = some (.int 1)) (fun u t => va_P D vwCl [(mo, .inr (13, u))] t.heap ∧ va_D (va_A [(mo, .inr (13, [.int 0, .ref (w 0), .int 0, .ref (w 1), .int 0, .int 0, .ref (w 2), .int 0, .ref (w 3), .ref (w 4), .int 0])), ((w 0), .inl (k 5, 3, .inr (.inr (.inr (.inr (fun i => some (w (5 + i)))))))), ((w 5), .inl (k 0, 768, .inl (fun _ => 0))), ((w 6), .inl (k 0, 768, .inl (fun _ => 0))), ((w 7), .inl (k 0, 768, .inl (fun _ => 0))), ((w 1), .inl (k 6, 8, .inr (.inr (.inr (.inr (fun _ => none)))))), ((w 2), .inl (k 6, 20, .inr (.inr (.inr (.inr (fun _ => none)))))), ((w 4), .inl (k 6, 6, .inr (.inr (.inr (.inr (fun _ => none))))))] sz) [(mo, .inr (13, u))]) (va_A [(mo, .inr (13, [.int 0, .ref (w 0), .int 0, .ref (w 1), .int 0, .int 0, .ref (w 2), .int 0, .ref (w 3), .ref (w 4), .int 0])), ((w 0), .inl (k 5, 3, .inr (.inr (.inr (.inr (fun i => some (w (5 + i)))))))), ((w 5), .inl (k 0, 768, .inl (fun _ => 0))), ((w 6), .inl (k 0, 768, .inl (fun _ => 0))), ((w 7), .inl (k 0, 768, .inl (fun _ => 0))), ((w 1), .inl (k 6, 8, .inr (.inr (.inr (.inr (fun _ => none)))))), ((w 2), .inl (k 6, 20, .inr (.inr (.inr (.inr (fun _ => none)))))), ((w 4), .inl (k 6, 6, .inr (.inr (.inr (.inr (fun _ => none))))))] sz)) 0 0 (va_A [(mo, .inr (13, [.int 0, .ref (w 0), .int 0, .ref (w 1), .int 0, .int 0, .ref (w 2), .int 0, .ref (w 3), .ref (w 4), .int 0])), ((w 0), .inl (k 5, 3, .inr (.inr (.inr (.inr (fun i => some (w (5 + i)))))))), ((w 5), .inl (k 0, 768, .inl (fun _ => 0))), ((w 6), .inl (k 0, 768, .inl (fun _ => 0))), ((w 7), .inl (k 0, 768, .inl (fun _ => 0))), ((w 1), .inl (k 6, 8, .inr (.inr (.inr (.inr (fun _ => none)))))), ((w 2), .inl (k 6, 20, .inr (.inr (.inr (.inr (fun _ => none)))))), ((w 4), .inl (k 6, 6, .inr (.inr (.inr (.inr (fun _ => none))))))] sz) := by
  refine Met.ofW (cc := cX12_row) (maxL := 8) (ret := (some .int)) (by decide) rfl ?_
  intro p e s m args below meth c s₁ B hml hv
  obtain ⟨rfl, rfl, hP, hC, hD0, hHf⟩ := hv
  have hx := B.exec
  have hb := B.bytes
  have hr := B.returns
  have hts := atoms_spec (ws := wsX12_row) B.pre
  have hown : s.vm.findClass RX12 = some m.cls := findClass_of_methodNamed B.named
  have hlocks := B.notSynchronized
  have hD := hD0.self (sz := s.heap.size)
  generalize hAe : va_A [(mo, .inr (13, [.int 0, .ref (w 0), .int 0, .ref (w 1), .int 0, .int 0, .ref (w 2), .int 0, .ref (w 3), .ref (w 4), .int 0])), ((w 0), .inl (k 5, 3, .inr (.inr (.inr (.inr (fun i => some (w (5 + i)))))))), ((w 5), .inl (k 0, 768, .inl (fun _ => 0))), ((w 6), .inl (k 0, 768, .inl (fun _ => 0))), ((w 7), .inl (k 0, 768, .inl (fun _ => 0))), ((w 1), .inl (k 6, 8, .inr (.inr (.inr (.inr (fun _ => none)))))), ((w 2), .inl (k 6, 20, .inr (.inr (.inr (.inr (fun _ => none)))))), ((w 4), .inl (k 6, 6, .inr (.inr (.inr (.inr (fun _ => none))))))] s.heap.size = A at hD hHf ⊢
  have hA : ∀ q : Nat, s.heap.size ≤ q → A q := fun q h => by rw [← hAe]; exact Or.inr h
  have hS : va_S A s.heap s.heap [] := va_S.rf
  refine w_entry (Nat.le_of_ble_eq_true rfl) (fun ls hl => ?_)
  have hl : lv_has ls 8 [(0, .ref mo), (1, .int n), (2, .int x), (3, .int y)] := hl
  refine lv_aload_n hx hb dX12_row_0 rfl (lv_at hl 0 rfl) ?_
  refine lv_aload_n hx hb dX12_row_1 rfl (lv_at hl 0 rfl) ?_
  refine lv_iload_n hx hb dX12_row_2 rfl (lv_at hl 1 rfl) ?_
  refine pz_i (va_runV (As := [.int n]) (rest := [.ref mo]) ⟨hx, hb, hml, hown, hts⟩ (k_X12_isQuery l D k s.heap mo w n (hP.sub [0] rfl)) (cwV 1 hts gX12_row_X12_isQuery rfl rfl rfl (by decide +kernel) ⟨Nat.le_of_ble_eq_true rfl, Nat.le_of_ble_eq_true rfl⟩) ⟨pPc_fb, va_recv hC.1 hP (ci := 13) (q0 := 0) rfl rfl, pPc_go hC⟩ rfl rfl hl.1 rfl (lv_room (Nat.le_of_ble_eq_true rfl)) dX12_row_3 ⟨Nat.le_of_ble_eq_true rfl, Nat.le_of_ble_eq_true rfl⟩) hS (fun r1 locs hw_r1 hS => ?_)
  subst hw_r1
  refine lv_if_ne (tgt := 13) hx hb dX12_row_6 (by decide) (fun c_6 => absurd c_6 (by decide)) (fun c_6 => ?_)
  refine lv_iconst (v := 1) hx hb dX12_row_9 (by decide) ?_
  refine lv_goto (tgt := 27) hx hb dX12_row_10 (by decide) ?_
  have hPc := hP.sub (ws' := [(mo, .inr (13, [.int 0, .ref (w 0), .int 0, .ref (w 1), .int 0, .int 0, .ref (w 2), .int 0, .ref (w 3), .ref (w 4), .int 0]))]) [0] rfl
  have hDc := hD.sub (ws' := [(mo, .inr (13, [.int 0, .ref (w 0), .int 0, .ref (w 1), .int 0, .int 0, .ref (w 2), .int 0, .ref (w 3), .ref (w 4), .int 0]))]) [0] (by decide) rfl
  have hFc := va_free (wc := [(mo, .inr (13, [.int 0, .ref (w 0), .int 0, .ref (w 1), .int 0, .int 0, .ref (w 2), .int 0, .ref (w 3), .ref (w 4), .int 0]))]) hD hS hA [0] rfl
  refine va_calli (va_runV (As := [.int 1]) (rest := []) ⟨hx, hb, hml, hown, hts⟩ (k_X12_fails l D k e0 s.heap.size mo w 0 1) (cwV 1 hts gX12_row_X12_fails rfl rfl rfl (by decide +kernel) ⟨Nat.le_of_ble_eq_true rfl, Nat.le_of_ble_eq_true rfl⟩) ⟨mPc_fb, va_recv hC.1 hPc (ci := 13) (q0 := 0) rfl rfl, mPc_go hC hHf hS hPc hDc hFc⟩ rfl rfl hl.1 rfl (lv_room (Nat.le_of_ble_eq_true rfl)) dX12_row_27 ⟨Nat.le_of_ble_eq_true rfl, Nat.le_of_ble_eq_true rfl⟩) hS (fun q9 _ h9 => hFc q9 h9) hFc (fun r3 u2 t H locs ht hvm hw_r3 hB hz1 hk1 hS => ?_)
  obtain ⟨hP1, hD1⟩ := hB
  rw [ht] at hP1
  obtain ⟨hP, hD⟩ := va_join (wr := [((w 0), .inl (k 5, 3, .inr (.inr (.inr (.inr (fun i => some (w (5 + i)))))))), ((w 5), .inl (k 0, 768, .inl (fun _ => 0))), ((w 6), .inl (k 0, 768, .inl (fun _ => 0))), ((w 7), .inl (k 0, 768, .inl (fun _ => 0))), ((w 1), .inl (k 6, 8, .inr (.inr (.inr (.inr (fun _ => none)))))), ((w 2), .inl (k 6, 20, .inr (.inr (.inr (.inr (fun _ => none)))))), ((w 4), .inl (k 6, 6, .inr (.inr (.inr (.inr (fun _ => none))))))]) (w1 := [(mo, .inr (13, [.int 1, .ref (w 0), .int 0, .ref (w 1), .int 0, .int 0, .ref (w 2), .int 0, .ref (w 3), .ref (w 4), .int 0]))]) hP hD [0] [1, 2, 3, 4, 5, 6, 7] rfl rfl (by decide) (by decide) hk1 hFc hP1 hD1
  have hP : va_P D vwCl [((w 0), .inl (k 5, 3, .inr (.inr (.inr (.inr (fun i => some (w (5 + i)))))))), ((w 5), .inl (k 0, 768, .inl (fun _ => 0))), ((w 6), .inl (k 0, 768, .inl (fun _ => 0))), ((w 7), .inl (k 0, 768, .inl (fun _ => 0))), ((w 1), .inl (k 6, 8, .inr (.inr (.inr (.inr (fun _ => none)))))), ((w 2), .inl (k 6, 20, .inr (.inr (.inr (.inr (fun _ => none)))))), ((w 4), .inl (k 6, 6, .inr (.inr (.inr (.inr (fun _ => none)))))), (mo, .inr (13, [.int 1, .ref (w 0), .int 0, .ref (w 1), .int 0, .int 0, .ref (w 2), .int 0, .ref (w 3), .ref (w 4), .int 0]))] H := hP
  have hD : va_D A [((w 0), .inl (k 5, 3, .inr (.inr (.inr (.inr (fun i => some (w (5 + i)))))))), ((w 5), .inl (k 0, 768, .inl (fun _ => 0))), ((w 6), .inl (k 0, 768, .inl (fun _ => 0))), ((w 7), .inl (k 0, 768, .inl (fun _ => 0))), ((w 1), .inl (k 6, 8, .inr (.inr (.inr (.inr (fun _ => none)))))), ((w 2), .inl (k 6, 20, .inr (.inr (.inr (.inr (fun _ => none)))))), ((w 4), .inl (k 6, 6, .inr (.inr (.inr (.inr (fun _ => none)))))), (mo, .inr (13, [.int 1, .ref (w 0), .int 0, .ref (w 1), .int 0, .int 0, .ref (w 2), .int 0, .ref (w 3), .ref (w 4), .int 0]))] := hD
  have e_r3 : r3 = 1 := hw_r3.trans (by decide)
  subst e_r3
  refine lv_if_eq (tgt := 35) hx hb dX12_row_30 (by decide) (fun c_30 => absurd c_30 (by decide)) (fun c_30 => ?_)
  refine lv_iconst (v := 0) hx hb dX12_row_33 (by decide) ?_
  exact W.iret (v := 0) hx hb hr (fun t ht hW => ⟨⟨0, [.int 1, .ref (w 0), .int 0, .ref (w 1), .int 0, .int 0, .ref (w 2), .int 0, .ref (w 3), .ref (w 4), .int 0], rfl, rfl, ⟨by rw [ht]; exact hP.sub [7] rfl, hD.sub [7] (by decide) rfl⟩⟩, hS.F ht⟩) hS.2.2 dX12_row_34

set_option maxHeartbeats 4000000 in
set_option maxRecDepth 100000 in
theorem k_X12_failsQuery (l : Launch) (D : va_G) (k : Nat → ClassId) (e0 : Nat) (sz : Nat) (mo : Nat) (w : Nat → Nat) (n : Int32) : Met l yX12_failsQuery wsX12_failsQuery ({ frames := 2, cells := 0, slots := 0, locals := 43 }) (mPc D k e0 sz [.ref mo, .int n] [(mo, .inr (13, [.int 0, .ref (w 0), .int 0, .ref (w 1), .int 0, .int 0, .ref (w 2), .int 0, .ref (w 3), .ref (w 4), .int 0]))]) (va_Qi (fun r (_ : Unit) => r = 1) (fun _ t => va_P D vwCl [(mo, .inr (13, [.int 1, .ref (w 0), .int 0, .ref (w 1), .int 0, .int 0, .ref (w 2), .int 0, .ref (w 3), .ref (w 4), .int 0]))] t.heap ∧ va_D (va_A [(mo, .inr (13, [.int 0, .ref (w 0), .int 0, .ref (w 1), .int 0, .int 0, .ref (w 2), .int 0, .ref (w 3), .ref (w 4), .int 0]))] sz) [(mo, .inr (13, [.int 1, .ref (w 0), .int 0, .ref (w 1), .int 0, .int 0, .ref (w 2), .int 0, .ref (w 3), .ref (w 4), .int 0]))]) (va_A [(mo, .inr (13, [.int 0, .ref (w 0), .int 0, .ref (w 1), .int 0, .int 0, .ref (w 2), .int 0, .ref (w 3), .ref (w 4), .int 0]))] sz)) 0 0 (va_A [(mo, .inr (13, [.int 0, .ref (w 0), .int 0, .ref (w 1), .int 0, .int 0, .ref (w 2), .int 0, .ref (w 3), .ref (w 4), .int 0]))] sz) := by
  refine Met.ofW (cc := cX12_failsQuery) (maxL := 2) (ret := (some .boolean)) (by decide) rfl ?_
  intro p e s m args below meth c s₁ B hml hv
  obtain ⟨rfl, rfl, hP, hC, hD0, hHf⟩ := hv
  have hx := B.exec
  have hb := B.bytes
  have hr := B.returns
  have hts := atoms_spec (ws := wsX12_failsQuery) B.pre
  have hown : s.vm.findClass RX12 = some m.cls := findClass_of_methodNamed B.named
  have hlocks := B.notSynchronized
  have hD := hD0.self (sz := s.heap.size)
  generalize hAe : va_A [(mo, .inr (13, [.int 0, .ref (w 0), .int 0, .ref (w 1), .int 0, .int 0, .ref (w 2), .int 0, .ref (w 3), .ref (w 4), .int 0]))] s.heap.size = A at hD hHf ⊢
  have hA : ∀ q : Nat, s.heap.size ≤ q → A q := fun q h => by rw [← hAe]; exact Or.inr h
  have hS : va_S A s.heap s.heap [] := va_S.rf
  refine w_entry (Nat.le_of_ble_eq_true rfl) (fun ls hl => ?_)
  have hl : lv_has ls 2 [(0, .ref mo), (1, .int n)] := hl
  refine lv_aload_n hx hb dX12_failsQuery_0 rfl (lv_at hl 0 rfl) ?_
  refine lv_aload_n hx hb dX12_failsQuery_1 rfl (lv_at hl 0 rfl) ?_
  refine lv_iload_n hx hb dX12_failsQuery_2 rfl (lv_at hl 1 rfl) ?_
  refine pz_i (va_runV (As := [.int n]) (rest := [.ref mo]) ⟨hx, hb, hml, hown, hts⟩ (k_X12_isQuery l D k s.heap mo w n (hP.sub [0] rfl)) (cwV 1 hts gX12_failsQuery_X12_isQuery rfl rfl rfl (by decide +kernel) ⟨Nat.le_of_ble_eq_true rfl, Nat.le_of_ble_eq_true rfl⟩) ⟨pPc_fb, va_recv hC.1 hP (ci := 13) (q0 := 0) rfl rfl, pPc_go hC⟩ rfl rfl hl.1 rfl (lv_room (Nat.le_of_ble_eq_true rfl)) dX12_failsQuery_3 ⟨Nat.le_of_ble_eq_true rfl, Nat.le_of_ble_eq_true rfl⟩) hS (fun r1 locs hw_r1 hS => ?_)
  subst hw_r1
  refine lv_if_eq (tgt := 13) hx hb dX12_failsQuery_6 (by decide) (fun c_6 => ?_) (fun c_6 => absurd (by decide) c_6)
  refine lv_iconst (v := 1) hx hb dX12_failsQuery_13 (by decide) ?_
  have hPc := hP.sub (ws' := [(mo, .inr (13, [.int 0, .ref (w 0), .int 0, .ref (w 1), .int 0, .int 0, .ref (w 2), .int 0, .ref (w 3), .ref (w 4), .int 0]))]) [0] rfl
  have hDc := hD.sub (ws' := [(mo, .inr (13, [.int 0, .ref (w 0), .int 0, .ref (w 1), .int 0, .int 0, .ref (w 2), .int 0, .ref (w 3), .ref (w 4), .int 0]))]) [0] (by decide) rfl
  have hFc := va_free (wc := [(mo, .inr (13, [.int 0, .ref (w 0), .int 0, .ref (w 1), .int 0, .int 0, .ref (w 2), .int 0, .ref (w 3), .ref (w 4), .int 0]))]) hD hS hA [0] rfl
  refine va_calli (va_runV (As := [.int 1]) (rest := []) ⟨hx, hb, hml, hown, hts⟩ (k_X12_fails l D k e0 s.heap.size mo w 0 1) (cwV 1 hts gX12_failsQuery_X12_fails rfl rfl rfl (by decide +kernel) ⟨Nat.le_of_ble_eq_true rfl, Nat.le_of_ble_eq_true rfl⟩) ⟨mPc_fb, va_recv hC.1 hPc (ci := 13) (q0 := 0) rfl rfl, mPc_go hC hHf hS hPc hDc hFc⟩ rfl rfl hl.1 rfl (lv_room (Nat.le_of_ble_eq_true rfl)) dX12_failsQuery_14 ⟨Nat.le_of_ble_eq_true rfl, Nat.le_of_ble_eq_true rfl⟩) hS (fun q9 _ h9 => hFc q9 h9) hFc (fun r3 u2 t H locs ht hvm hw_r3 hB hz1 hk1 hS => ?_)
  obtain ⟨hP1, hD1⟩ := hB
  rw [ht] at hP1
  obtain ⟨hP, hD⟩ := va_join (wr := []) (w1 := [(mo, .inr (13, [.int 1, .ref (w 0), .int 0, .ref (w 1), .int 0, .int 0, .ref (w 2), .int 0, .ref (w 3), .ref (w 4), .int 0]))]) hP hD [0] [] rfl rfl (by decide) (by decide) hk1 hFc hP1 hD1
  have hP : va_P D vwCl [(mo, .inr (13, [.int 1, .ref (w 0), .int 0, .ref (w 1), .int 0, .int 0, .ref (w 2), .int 0, .ref (w 3), .ref (w 4), .int 0]))] H := hP
  have hD : va_D A [(mo, .inr (13, [.int 1, .ref (w 0), .int 0, .ref (w 1), .int 0, .int 0, .ref (w 2), .int 0, .ref (w 3), .ref (w 4), .int 0]))] := hD
  have e_r3 : r3 = 1 := hw_r3.trans (by decide)
  subst e_r3
  exact W.zret (v := 1) (ty := .boolean) hx hb hr (rfl) (fun t ht hW => ⟨⟨1, (), rfl, rfl, ⟨by rw [ht]; exact hP.sub [0] rfl, hD.sub [0] (by decide) rfl⟩⟩, hS.F ht⟩) hS.2.2 dX12_failsQuery_17

set_option maxHeartbeats 4000000 in
set_option maxRecDepth 100000 in
theorem k_X12_failsRows (l : Launch) (D : va_G) (k : Nat → ClassId) (e0 : Nat) (sz : Nat) (mo : Nat) (w : Nat → Nat) (n g x y z : Int32) : Met l yX12_failsRows wsX12_failsRows ({ frames := 2, cells := 0, slots := 0, locals := 43 }) (mPc D k e0 sz [.ref mo, .int n, .int g, .int x, .int y, .int z] [(mo, .inr (13, [.int 0, .ref (w 0), .int 0, .ref (w 1), .int 0, .int 0, .ref (w 2), .int 0, .ref (w 3), .ref (w 4), .int 0]))]) (va_Qi (fun r (_ : Unit) => r = 1) (fun _ t => va_P D vwCl [(mo, .inr (13, [.int 1, .ref (w 0), .int 0, .ref (w 1), .int 0, .int 0, .ref (w 2), .int 0, .ref (w 3), .ref (w 4), .int 0]))] t.heap ∧ va_D (va_A [(mo, .inr (13, [.int 0, .ref (w 0), .int 0, .ref (w 1), .int 0, .int 0, .ref (w 2), .int 0, .ref (w 3), .ref (w 4), .int 0]))] sz) [(mo, .inr (13, [.int 1, .ref (w 0), .int 0, .ref (w 1), .int 0, .int 0, .ref (w 2), .int 0, .ref (w 3), .ref (w 4), .int 0]))]) (va_A [(mo, .inr (13, [.int 0, .ref (w 0), .int 0, .ref (w 1), .int 0, .int 0, .ref (w 2), .int 0, .ref (w 3), .ref (w 4), .int 0]))] sz)) 0 0 (va_A [(mo, .inr (13, [.int 0, .ref (w 0), .int 0, .ref (w 1), .int 0, .int 0, .ref (w 2), .int 0, .ref (w 3), .ref (w 4), .int 0]))] sz) := by
  refine Met.ofW (cc := cX12_failsRows) (maxL := 6) (ret := (some .boolean)) (by decide) rfl ?_
  intro p e s m args below meth c s₁ B hml hv
  obtain ⟨rfl, rfl, hP, hC, hD0, hHf⟩ := hv
  have hx := B.exec
  have hb := B.bytes
  have hr := B.returns
  have hts := atoms_spec (ws := wsX12_failsRows) B.pre
  have hown : s.vm.findClass RX12 = some m.cls := findClass_of_methodNamed B.named
  have hlocks := B.notSynchronized
  have hD := hD0.self (sz := s.heap.size)
  generalize hAe : va_A [(mo, .inr (13, [.int 0, .ref (w 0), .int 0, .ref (w 1), .int 0, .int 0, .ref (w 2), .int 0, .ref (w 3), .ref (w 4), .int 0]))] s.heap.size = A at hD hHf ⊢
  have hA : ∀ q : Nat, s.heap.size ≤ q → A q := fun q h => by rw [← hAe]; exact Or.inr h
  have hS : va_S A s.heap s.heap [] := va_S.rf
  refine w_entry (Nat.le_of_ble_eq_true rfl) (fun ls hl => ?_)
  have hl : lv_has ls 6 [(0, .ref mo), (1, .int n), (2, .int g), (3, .int x), (4, .int y), (5, .int z)] := hl
  refine lv_aload_n hx hb dX12_failsRows_0 rfl (lv_at hl 0 rfl) ?_
  refine lv_aload_n hx hb dX12_failsRows_1 rfl (lv_at hl 0 rfl) ?_
  refine lv_iload_n hx hb dX12_failsRows_2 rfl (lv_at hl 1 rfl) ?_
  refine pz_i (va_runV (As := [.int n]) (rest := [.ref mo]) ⟨hx, hb, hml, hown, hts⟩ (k_X12_isQuery l D k s.heap mo w n (hP.sub [0] rfl)) (cwV 1 hts gX12_failsRows_X12_isQuery rfl rfl rfl (by decide +kernel) ⟨Nat.le_of_ble_eq_true rfl, Nat.le_of_ble_eq_true rfl⟩) ⟨pPc_fb, va_recv hC.1 hP (ci := 13) (q0 := 0) rfl rfl, pPc_go hC⟩ rfl rfl hl.1 rfl (lv_room (Nat.le_of_ble_eq_true rfl)) dX12_failsRows_3 ⟨Nat.le_of_ble_eq_true rfl, Nat.le_of_ble_eq_true rfl⟩) hS (fun r1 locs hw_r1 hS => ?_)
  subst hw_r1
  refine lv_if_ne (tgt := 13) hx hb dX12_failsRows_6 (by decide) (fun c_6 => absurd c_6 (by decide)) (fun c_6 => ?_)
  refine lv_iconst (v := 1) hx hb dX12_failsRows_9 (by decide) ?_
  refine lv_goto (tgt := 50) hx hb dX12_failsRows_10 (by decide) ?_
  have hPc := hP.sub (ws' := [(mo, .inr (13, [.int 0, .ref (w 0), .int 0, .ref (w 1), .int 0, .int 0, .ref (w 2), .int 0, .ref (w 3), .ref (w 4), .int 0]))]) [0] rfl
  have hDc := hD.sub (ws' := [(mo, .inr (13, [.int 0, .ref (w 0), .int 0, .ref (w 1), .int 0, .int 0, .ref (w 2), .int 0, .ref (w 3), .ref (w 4), .int 0]))]) [0] (by decide) rfl
  have hFc := va_free (wc := [(mo, .inr (13, [.int 0, .ref (w 0), .int 0, .ref (w 1), .int 0, .int 0, .ref (w 2), .int 0, .ref (w 3), .ref (w 4), .int 0]))]) hD hS hA [0] rfl
  refine va_calli (va_runV (As := [.int 1]) (rest := []) ⟨hx, hb, hml, hown, hts⟩ (k_X12_fails l D k e0 s.heap.size mo w 0 1) (cwV 1 hts gX12_failsRows_X12_fails rfl rfl rfl (by decide +kernel) ⟨Nat.le_of_ble_eq_true rfl, Nat.le_of_ble_eq_true rfl⟩) ⟨mPc_fb, va_recv hC.1 hPc (ci := 13) (q0 := 0) rfl rfl, mPc_go hC hHf hS hPc hDc hFc⟩ rfl rfl hl.1 rfl (lv_room (Nat.le_of_ble_eq_true rfl)) dX12_failsRows_50 ⟨Nat.le_of_ble_eq_true rfl, Nat.le_of_ble_eq_true rfl⟩) hS (fun q9 _ h9 => hFc q9 h9) hFc (fun r3 u2 t H locs ht hvm hw_r3 hB hz1 hk1 hS => ?_)
  obtain ⟨hP1, hD1⟩ := hB
  rw [ht] at hP1
  obtain ⟨hP, hD⟩ := va_join (wr := []) (w1 := [(mo, .inr (13, [.int 1, .ref (w 0), .int 0, .ref (w 1), .int 0, .int 0, .ref (w 2), .int 0, .ref (w 3), .ref (w 4), .int 0]))]) hP hD [0] [] rfl rfl (by decide) (by decide) hk1 hFc hP1 hD1
  have hP : va_P D vwCl [(mo, .inr (13, [.int 1, .ref (w 0), .int 0, .ref (w 1), .int 0, .int 0, .ref (w 2), .int 0, .ref (w 3), .ref (w 4), .int 0]))] H := hP
  have hD : va_D A [(mo, .inr (13, [.int 1, .ref (w 0), .int 0, .ref (w 1), .int 0, .int 0, .ref (w 2), .int 0, .ref (w 3), .ref (w 4), .int 0]))] := hD
  have e_r3 : r3 = 1 := hw_r3.trans (by decide)
  subst e_r3
  exact W.zret (v := 1) (ty := .boolean) hx hb hr (rfl) (fun t ht hW => ⟨⟨1, (), rfl, rfl, ⟨by rw [ht]; exact hP.sub [0] rfl, hD.sub [0] (by decide) rfl⟩⟩, hS.F ht⟩) hS.2.2 dX12_failsRows_53

set_option maxHeartbeats 4000000 in
set_option maxRecDepth 100000 in
theorem k_X12_rows (l : Launch) (D : va_G) (k : Nat → ClassId) (e0 : Nat) (sz : Nat) (mo : Nat) (w : Nat → Nat) (n : Int32) : Met l yX12_rows wsX12_rows ({ frames := 3, cells := 0, slots := 0, locals := 64 }) (mPc D k e0 sz [.ref mo, .int n] [(mo, .inr (13, [.int 0, .ref (w 0), .int 0, .ref (w 1), .int 0, .int 0, .ref (w 2), .int 0, .ref (w 3), .ref (w 4), .int 0])), ((w 0), .inl (k 5, 3, .inr (.inr (.inr (.inr (fun i => some (w (5 + i)))))))), ((w 5), .inl (k 0, 768, .inl (fun _ => 0))), ((w 6), .inl (k 0, 768, .inl (fun _ => 0))), ((w 7), .inl (k 0, 768, .inl (fun _ => 0))), ((w 1), .inl (k 6, 8, .inr (.inr (.inr (.inr (fun _ => none)))))), ((w 2), .inl (k 6, 20, .inr (.inr (.inr (.inr (fun _ => none)))))), ((w 4), .inl (k 6, 6, .inr (.inr (.inr (.inr (fun _ => none))))))]) (va_Ql (fun r (u : List Value) => u[0]? = some (.int 1)) (fun u t => va_P D vwCl [(mo, .inr (13, u))] t.heap ∧ va_D (va_A [(mo, .inr (13, [.int 0, .ref (w 0), .int 0, .ref (w 1), .int 0, .int 0, .ref (w 2), .int 0, .ref (w 3), .ref (w 4), .int 0])), ((w 0), .inl (k 5, 3, .inr (.inr (.inr (.inr (fun i => some (w (5 + i)))))))), ((w 5), .inl (k 0, 768, .inl (fun _ => 0))), ((w 6), .inl (k 0, 768, .inl (fun _ => 0))), ((w 7), .inl (k 0, 768, .inl (fun _ => 0))), ((w 1), .inl (k 6, 8, .inr (.inr (.inr (.inr (fun _ => none)))))), ((w 2), .inl (k 6, 20, .inr (.inr (.inr (.inr (fun _ => none)))))), ((w 4), .inl (k 6, 6, .inr (.inr (.inr (.inr (fun _ => none))))))] sz) [(mo, .inr (13, u))]) (va_A [(mo, .inr (13, [.int 0, .ref (w 0), .int 0, .ref (w 1), .int 0, .int 0, .ref (w 2), .int 0, .ref (w 3), .ref (w 4), .int 0])), ((w 0), .inl (k 5, 3, .inr (.inr (.inr (.inr (fun i => some (w (5 + i)))))))), ((w 5), .inl (k 0, 768, .inl (fun _ => 0))), ((w 6), .inl (k 0, 768, .inl (fun _ => 0))), ((w 7), .inl (k 0, 768, .inl (fun _ => 0))), ((w 1), .inl (k 6, 8, .inr (.inr (.inr (.inr (fun _ => none)))))), ((w 2), .inl (k 6, 20, .inr (.inr (.inr (.inr (fun _ => none)))))), ((w 4), .inl (k 6, 6, .inr (.inr (.inr (.inr (fun _ => none))))))] sz)) 0 0 (va_A [(mo, .inr (13, [.int 0, .ref (w 0), .int 0, .ref (w 1), .int 0, .int 0, .ref (w 2), .int 0, .ref (w 3), .ref (w 4), .int 0])), ((w 0), .inl (k 5, 3, .inr (.inr (.inr (.inr (fun i => some (w (5 + i)))))))), ((w 5), .inl (k 0, 768, .inl (fun _ => 0))), ((w 6), .inl (k 0, 768, .inl (fun _ => 0))), ((w 7), .inl (k 0, 768, .inl (fun _ => 0))), ((w 1), .inl (k 6, 8, .inr (.inr (.inr (.inr (fun _ => none)))))), ((w 2), .inl (k 6, 20, .inr (.inr (.inr (.inr (fun _ => none)))))), ((w 4), .inl (k 6, 6, .inr (.inr (.inr (.inr (fun _ => none))))))] sz) := by
  refine Met.ofW (cc := cX12_rows) (maxL := 9) (ret := (some .long)) (by decide) rfl ?_
  intro p e s m args below meth c s₁ B hml hv
  obtain ⟨rfl, rfl, hP, hC, hD0, hHf⟩ := hv
  have hx := B.exec
  have hb := B.bytes
  have hr := B.returns
  have hts := atoms_spec (ws := wsX12_rows) B.pre
  have hown : s.vm.findClass RX12 = some m.cls := findClass_of_methodNamed B.named
  have hlocks := B.notSynchronized
  have hD := hD0.self (sz := s.heap.size)
  generalize hAe : va_A [(mo, .inr (13, [.int 0, .ref (w 0), .int 0, .ref (w 1), .int 0, .int 0, .ref (w 2), .int 0, .ref (w 3), .ref (w 4), .int 0])), ((w 0), .inl (k 5, 3, .inr (.inr (.inr (.inr (fun i => some (w (5 + i)))))))), ((w 5), .inl (k 0, 768, .inl (fun _ => 0))), ((w 6), .inl (k 0, 768, .inl (fun _ => 0))), ((w 7), .inl (k 0, 768, .inl (fun _ => 0))), ((w 1), .inl (k 6, 8, .inr (.inr (.inr (.inr (fun _ => none)))))), ((w 2), .inl (k 6, 20, .inr (.inr (.inr (.inr (fun _ => none)))))), ((w 4), .inl (k 6, 6, .inr (.inr (.inr (.inr (fun _ => none))))))] s.heap.size = A at hD hHf ⊢
  have hA : ∀ q : Nat, s.heap.size ≤ q → A q := fun q h => by rw [← hAe]; exact Or.inr h
  have hS : va_S A s.heap s.heap [] := va_S.rf
  refine w_entry (Nat.le_of_ble_eq_true rfl) (fun ls hl => ?_)
  have hl : lv_has ls 9 [(0, .ref mo), (1, .int n)] := hl
  refine lv_aload_n hx hb dX12_rows_0 rfl (lv_at hl 0 rfl) ?_
  refine lv_iload_n hx hb dX12_rows_1 rfl (lv_at hl 1 rfl) ?_
  have hPc := hP.sub (ws' := [(mo, .inr (13, [.int 0, .ref (w 0), .int 0, .ref (w 1), .int 0, .int 0, .ref (w 2), .int 0, .ref (w 3), .ref (w 4), .int 0]))]) [0] rfl
  have hDc := hD.sub (ws' := [(mo, .inr (13, [.int 0, .ref (w 0), .int 0, .ref (w 1), .int 0, .int 0, .ref (w 2), .int 0, .ref (w 3), .ref (w 4), .int 0]))]) [0] (by decide) rfl
  have hFc := va_free (wc := [(mo, .inr (13, [.int 0, .ref (w 0), .int 0, .ref (w 1), .int 0, .int 0, .ref (w 2), .int 0, .ref (w 3), .ref (w 4), .int 0]))]) hD hS hA [0] rfl
  refine va_calli (va_runV (As := [.int n]) (rest := []) ⟨hx, hb, hml, hown, hts⟩ (k_X12_failsQuery l D k e0 s.heap.size mo w n) (cwV 1 hts gX12_rows_X12_failsQuery rfl rfl rfl (by decide +kernel) ⟨Nat.le_of_ble_eq_true rfl, Nat.le_of_ble_eq_true rfl⟩) ⟨mPc_fb, va_recv hC.1 hPc (ci := 13) (q0 := 0) rfl rfl, mPc_go hC hHf hS hPc hDc hFc⟩ rfl rfl hl.1 rfl (lv_room (Nat.le_of_ble_eq_true rfl)) dX12_rows_2 ⟨Nat.le_of_ble_eq_true rfl, Nat.le_of_ble_eq_true rfl⟩) hS (fun q9 _ h9 => hFc q9 h9) hFc (fun r2 u1 t H locs ht hvm hw_r2 hB hz1 hk1 hS => ?_)
  obtain ⟨hP1, hD1⟩ := hB
  rw [ht] at hP1
  obtain ⟨hP, hD⟩ := va_join (wr := [((w 0), .inl (k 5, 3, .inr (.inr (.inr (.inr (fun i => some (w (5 + i)))))))), ((w 5), .inl (k 0, 768, .inl (fun _ => 0))), ((w 6), .inl (k 0, 768, .inl (fun _ => 0))), ((w 7), .inl (k 0, 768, .inl (fun _ => 0))), ((w 1), .inl (k 6, 8, .inr (.inr (.inr (.inr (fun _ => none)))))), ((w 2), .inl (k 6, 20, .inr (.inr (.inr (.inr (fun _ => none)))))), ((w 4), .inl (k 6, 6, .inr (.inr (.inr (.inr (fun _ => none))))))]) (w1 := [(mo, .inr (13, [.int 1, .ref (w 0), .int 0, .ref (w 1), .int 0, .int 0, .ref (w 2), .int 0, .ref (w 3), .ref (w 4), .int 0]))]) hP hD [0] [1, 2, 3, 4, 5, 6, 7] rfl rfl (by decide) (by decide) hk1 hFc hP1 hD1
  have hP : va_P D vwCl [((w 0), .inl (k 5, 3, .inr (.inr (.inr (.inr (fun i => some (w (5 + i)))))))), ((w 5), .inl (k 0, 768, .inl (fun _ => 0))), ((w 6), .inl (k 0, 768, .inl (fun _ => 0))), ((w 7), .inl (k 0, 768, .inl (fun _ => 0))), ((w 1), .inl (k 6, 8, .inr (.inr (.inr (.inr (fun _ => none)))))), ((w 2), .inl (k 6, 20, .inr (.inr (.inr (.inr (fun _ => none)))))), ((w 4), .inl (k 6, 6, .inr (.inr (.inr (.inr (fun _ => none)))))), (mo, .inr (13, [.int 1, .ref (w 0), .int 0, .ref (w 1), .int 0, .int 0, .ref (w 2), .int 0, .ref (w 3), .ref (w 4), .int 0]))] H := hP
  have hD : va_D A [((w 0), .inl (k 5, 3, .inr (.inr (.inr (.inr (fun i => some (w (5 + i)))))))), ((w 5), .inl (k 0, 768, .inl (fun _ => 0))), ((w 6), .inl (k 0, 768, .inl (fun _ => 0))), ((w 7), .inl (k 0, 768, .inl (fun _ => 0))), ((w 1), .inl (k 6, 8, .inr (.inr (.inr (.inr (fun _ => none)))))), ((w 2), .inl (k 6, 20, .inr (.inr (.inr (.inr (fun _ => none)))))), ((w 4), .inl (k 6, 6, .inr (.inr (.inr (.inr (fun _ => none)))))), (mo, .inr (13, [.int 1, .ref (w 0), .int 0, .ref (w 1), .int 0, .int 0, .ref (w 2), .int 0, .ref (w 3), .ref (w 4), .int 0]))] := hD
  subst hw_r2
  refine lv_if_eq (tgt := 10) hx hb dX12_rows_5 (by decide) (fun c_5 => absurd c_5 (by decide)) (fun c_5 => ?_)
  refine lv_lconst (v := 0) hx hb dX12_rows_8 (by decide) ?_
  exact W.lret (v := 0) hx hb hr (fun t ht hW => ⟨⟨0, [.int 1, .ref (w 0), .int 0, .ref (w 1), .int 0, .int 0, .ref (w 2), .int 0, .ref (w 3), .ref (w 4), .int 0], rfl, rfl, ⟨by rw [ht]; exact hP.sub [7] rfl, hD.sub [7] (by decide) rfl⟩⟩, hS.F ht⟩) hS.2.2 dX12_rows_9

set_option maxHeartbeats 4000000 in
set_option maxRecDepth 100000 in
theorem k_X12_rowsAnew (l : Launch) (D : va_G) (k : Nat → ClassId) (e0 : Nat) (sz : Nat) (mo : Nat) (w : Nat → Nat) (n : Int32) : Met l yX12_rowsAnew wsX12_rowsAnew ({ frames := 4, cells := 0, slots := 0, locals := 92 }) (mPc D k e0 sz [.ref mo, .int n] [(mo, .inr (13, [.int 0, .ref (w 0), .int 0, .ref (w 1), .int 0, .int 0, .ref (w 2), .int 0, .ref (w 3), .ref (w 4), .int 0])), ((w 0), .inl (k 5, 3, .inr (.inr (.inr (.inr (fun i => some (w (5 + i)))))))), ((w 5), .inl (k 0, 768, .inl (fun _ => 0))), ((w 6), .inl (k 0, 768, .inl (fun _ => 0))), ((w 7), .inl (k 0, 768, .inl (fun _ => 0))), ((w 1), .inl (k 6, 8, .inr (.inr (.inr (.inr (fun _ => none)))))), ((w 2), .inl (k 6, 20, .inr (.inr (.inr (.inr (fun _ => none)))))), ((w 4), .inl (k 6, 6, .inr (.inr (.inr (.inr (fun _ => none))))))]) (va_Ql (fun r (u : List Value) => u[0]? = some (.int 1)) (fun u t => va_P D vwCl [(mo, .inr (13, u))] t.heap ∧ va_D (va_A [(mo, .inr (13, [.int 0, .ref (w 0), .int 0, .ref (w 1), .int 0, .int 0, .ref (w 2), .int 0, .ref (w 3), .ref (w 4), .int 0])), ((w 0), .inl (k 5, 3, .inr (.inr (.inr (.inr (fun i => some (w (5 + i)))))))), ((w 5), .inl (k 0, 768, .inl (fun _ => 0))), ((w 6), .inl (k 0, 768, .inl (fun _ => 0))), ((w 7), .inl (k 0, 768, .inl (fun _ => 0))), ((w 1), .inl (k 6, 8, .inr (.inr (.inr (.inr (fun _ => none)))))), ((w 2), .inl (k 6, 20, .inr (.inr (.inr (.inr (fun _ => none)))))), ((w 4), .inl (k 6, 6, .inr (.inr (.inr (.inr (fun _ => none))))))] sz) [(mo, .inr (13, u))]) (va_A [(mo, .inr (13, [.int 0, .ref (w 0), .int 0, .ref (w 1), .int 0, .int 0, .ref (w 2), .int 0, .ref (w 3), .ref (w 4), .int 0])), ((w 0), .inl (k 5, 3, .inr (.inr (.inr (.inr (fun i => some (w (5 + i)))))))), ((w 5), .inl (k 0, 768, .inl (fun _ => 0))), ((w 6), .inl (k 0, 768, .inl (fun _ => 0))), ((w 7), .inl (k 0, 768, .inl (fun _ => 0))), ((w 1), .inl (k 6, 8, .inr (.inr (.inr (.inr (fun _ => none)))))), ((w 2), .inl (k 6, 20, .inr (.inr (.inr (.inr (fun _ => none)))))), ((w 4), .inl (k 6, 6, .inr (.inr (.inr (.inr (fun _ => none))))))] sz)) 0 0 (va_A [(mo, .inr (13, [.int 0, .ref (w 0), .int 0, .ref (w 1), .int 0, .int 0, .ref (w 2), .int 0, .ref (w 3), .ref (w 4), .int 0])), ((w 0), .inl (k 5, 3, .inr (.inr (.inr (.inr (fun i => some (w (5 + i)))))))), ((w 5), .inl (k 0, 768, .inl (fun _ => 0))), ((w 6), .inl (k 0, 768, .inl (fun _ => 0))), ((w 7), .inl (k 0, 768, .inl (fun _ => 0))), ((w 1), .inl (k 6, 8, .inr (.inr (.inr (.inr (fun _ => none)))))), ((w 2), .inl (k 6, 20, .inr (.inr (.inr (.inr (fun _ => none)))))), ((w 4), .inl (k 6, 6, .inr (.inr (.inr (.inr (fun _ => none))))))] sz) := by
  refine Met.ofW (cc := cX12_rowsAnew) (maxL := 2) (ret := (some .long)) (by decide) rfl ?_
  intro p e s m args below meth c s₁ B hml hv
  obtain ⟨rfl, rfl, hP, hC, hD0, hHf⟩ := hv
  have hx := B.exec
  have hb := B.bytes
  have hr := B.returns
  have hts := atoms_spec (ws := wsX12_rowsAnew) B.pre
  have hown : s.vm.findClass RX12 = some m.cls := findClass_of_methodNamed B.named
  have hlocks := B.notSynchronized
  have hD := hD0.self (sz := s.heap.size)
  generalize hAe : va_A [(mo, .inr (13, [.int 0, .ref (w 0), .int 0, .ref (w 1), .int 0, .int 0, .ref (w 2), .int 0, .ref (w 3), .ref (w 4), .int 0])), ((w 0), .inl (k 5, 3, .inr (.inr (.inr (.inr (fun i => some (w (5 + i)))))))), ((w 5), .inl (k 0, 768, .inl (fun _ => 0))), ((w 6), .inl (k 0, 768, .inl (fun _ => 0))), ((w 7), .inl (k 0, 768, .inl (fun _ => 0))), ((w 1), .inl (k 6, 8, .inr (.inr (.inr (.inr (fun _ => none)))))), ((w 2), .inl (k 6, 20, .inr (.inr (.inr (.inr (fun _ => none)))))), ((w 4), .inl (k 6, 6, .inr (.inr (.inr (.inr (fun _ => none))))))] s.heap.size = A at hD hHf ⊢
  have hA : ∀ q : Nat, s.heap.size ≤ q → A q := fun q h => by rw [← hAe]; exact Or.inr h
  have hS : va_S A s.heap s.heap [] := va_S.rf
  refine w_entry (Nat.le_of_ble_eq_true rfl) (fun ls hl => ?_)
  have hl : lv_has ls 2 [(0, .ref mo), (1, .int n)] := hl
  refine lv_aload_n hx hb dX12_rowsAnew_0 rfl (lv_at hl 0 rfl) ?_
  refine lv_iload_n hx hb dX12_rowsAnew_1 rfl (lv_at hl 1 rfl) ?_
  have hPc := hP.sub (ws' := [(mo, .inr (13, [.int 0, .ref (w 0), .int 0, .ref (w 1), .int 0, .int 0, .ref (w 2), .int 0, .ref (w 3), .ref (w 4), .int 0])), ((w 0), .inl (k 5, 3, .inr (.inr (.inr (.inr (fun i => some (w (5 + i)))))))), ((w 5), .inl (k 0, 768, .inl (fun _ => 0))), ((w 6), .inl (k 0, 768, .inl (fun _ => 0))), ((w 7), .inl (k 0, 768, .inl (fun _ => 0))), ((w 1), .inl (k 6, 8, .inr (.inr (.inr (.inr (fun _ => none)))))), ((w 2), .inl (k 6, 20, .inr (.inr (.inr (.inr (fun _ => none)))))), ((w 4), .inl (k 6, 6, .inr (.inr (.inr (.inr (fun _ => none))))))]) [0, 1, 2, 3, 4, 5, 6, 7] rfl
  have hDc := hD.sub (ws' := [(mo, .inr (13, [.int 0, .ref (w 0), .int 0, .ref (w 1), .int 0, .int 0, .ref (w 2), .int 0, .ref (w 3), .ref (w 4), .int 0])), ((w 0), .inl (k 5, 3, .inr (.inr (.inr (.inr (fun i => some (w (5 + i)))))))), ((w 5), .inl (k 0, 768, .inl (fun _ => 0))), ((w 6), .inl (k 0, 768, .inl (fun _ => 0))), ((w 7), .inl (k 0, 768, .inl (fun _ => 0))), ((w 1), .inl (k 6, 8, .inr (.inr (.inr (.inr (fun _ => none)))))), ((w 2), .inl (k 6, 20, .inr (.inr (.inr (.inr (fun _ => none)))))), ((w 4), .inl (k 6, 6, .inr (.inr (.inr (.inr (fun _ => none))))))]) [0, 1, 2, 3, 4, 5, 6, 7] (by decide) rfl
  have hFc := va_free (wc := [(mo, .inr (13, [.int 0, .ref (w 0), .int 0, .ref (w 1), .int 0, .int 0, .ref (w 2), .int 0, .ref (w 3), .ref (w 4), .int 0])), ((w 0), .inl (k 5, 3, .inr (.inr (.inr (.inr (fun i => some (w (5 + i)))))))), ((w 5), .inl (k 0, 768, .inl (fun _ => 0))), ((w 6), .inl (k 0, 768, .inl (fun _ => 0))), ((w 7), .inl (k 0, 768, .inl (fun _ => 0))), ((w 1), .inl (k 6, 8, .inr (.inr (.inr (.inr (fun _ => none)))))), ((w 2), .inl (k 6, 20, .inr (.inr (.inr (.inr (fun _ => none)))))), ((w 4), .inl (k 6, 6, .inr (.inr (.inr (.inr (fun _ => none))))))]) hD hS hA [0, 1, 2, 3, 4, 5, 6, 7] rfl
  refine va_calll (va_runV (As := [.int n]) (rest := []) ⟨hx, hb, hml, hown, hts⟩ (k_X12_rows l D k e0 s.heap.size mo w n) (cwV 1 hts gX12_rowsAnew_X12_rows rfl rfl rfl (by decide +kernel) ⟨Nat.le_of_ble_eq_true rfl, Nat.le_of_ble_eq_true rfl⟩) ⟨mPc_fb, va_recv hC.1 hPc (ci := 13) (q0 := 0) rfl rfl, mPc_go hC hHf hS hPc hDc hFc⟩ rfl rfl hl.1 rfl (lv_room (Nat.le_of_ble_eq_true rfl)) dX12_rowsAnew_2 ⟨Nat.le_of_ble_eq_true rfl, Nat.le_of_ble_eq_true rfl⟩) hS (fun q9 _ h9 => hFc q9 h9) hFc (fun r2 u1 t H locs ht hvm hw_r2 hB hz1 hk1 hS => ?_)
  obtain ⟨hP1, hD1⟩ := hB
  rw [ht] at hP1
  obtain ⟨hP, hD⟩ := va_join (wr := []) (w1 := [(mo, .inr (13, u1))]) hP hD [0, 1, 2, 3, 4, 5, 6, 7] [] rfl rfl (by decide) (by decide) hk1 hFc hP1 hD1
  have hP : va_P D vwCl [(mo, .inr (13, u1))] H := hP
  have hD : va_D A [(mo, .inr (13, u1))] := hD
  exact W.lret (v := r2) hx hb hr (fun t ht hW => ⟨⟨r2, u1, rfl, hw_r2, ⟨by rw [ht]; exact hP.sub [0] rfl, hD.sub [0] (by decide) rfl⟩⟩, hS.F ht⟩) hS.2.2 dX12_rowsAnew_5

set_option maxHeartbeats 4000000 in
set_option maxRecDepth 100000 in
theorem k_X12_different (l : Launch) (D : va_G) (k : Nat → ClassId) (e0 : Nat) (sz : Nat) (mo : Nat) (w : Nat → Nat) (n : Int32) : Met l yX12_different wsX12_different ({ frames := 3, cells := 0, slots := 0, locals := 64 }) (mPc D k e0 sz [.ref mo, .int n] [(mo, .inr (13, [.int 0, .ref (w 0), .int 0, .ref (w 1), .int 0, .int 0, .ref (w 2), .int 0, .ref (w 3), .ref (w 4), .int 0])), ((w 0), .inl (k 5, 3, .inr (.inr (.inr (.inr (fun i => some (w (5 + i)))))))), ((w 5), .inl (k 0, 768, .inl (fun _ => 0))), ((w 6), .inl (k 0, 768, .inl (fun _ => 0))), ((w 7), .inl (k 0, 768, .inl (fun _ => 0))), ((w 1), .inl (k 6, 8, .inr (.inr (.inr (.inr (fun _ => none)))))), ((w 2), .inl (k 6, 20, .inr (.inr (.inr (.inr (fun _ => none)))))), ((w 4), .inl (k 6, 6, .inr (.inr (.inr (.inr (fun _ => none))))))]) (va_Qi (fun r (u : List Value) => u[0]? = some (.int 1)) (fun u t => va_P D vwCl [(mo, .inr (13, u))] t.heap ∧ va_D (va_A [(mo, .inr (13, [.int 0, .ref (w 0), .int 0, .ref (w 1), .int 0, .int 0, .ref (w 2), .int 0, .ref (w 3), .ref (w 4), .int 0])), ((w 0), .inl (k 5, 3, .inr (.inr (.inr (.inr (fun i => some (w (5 + i)))))))), ((w 5), .inl (k 0, 768, .inl (fun _ => 0))), ((w 6), .inl (k 0, 768, .inl (fun _ => 0))), ((w 7), .inl (k 0, 768, .inl (fun _ => 0))), ((w 1), .inl (k 6, 8, .inr (.inr (.inr (.inr (fun _ => none)))))), ((w 2), .inl (k 6, 20, .inr (.inr (.inr (.inr (fun _ => none)))))), ((w 4), .inl (k 6, 6, .inr (.inr (.inr (.inr (fun _ => none))))))] sz) [(mo, .inr (13, u))]) (va_A [(mo, .inr (13, [.int 0, .ref (w 0), .int 0, .ref (w 1), .int 0, .int 0, .ref (w 2), .int 0, .ref (w 3), .ref (w 4), .int 0])), ((w 0), .inl (k 5, 3, .inr (.inr (.inr (.inr (fun i => some (w (5 + i)))))))), ((w 5), .inl (k 0, 768, .inl (fun _ => 0))), ((w 6), .inl (k 0, 768, .inl (fun _ => 0))), ((w 7), .inl (k 0, 768, .inl (fun _ => 0))), ((w 1), .inl (k 6, 8, .inr (.inr (.inr (.inr (fun _ => none)))))), ((w 2), .inl (k 6, 20, .inr (.inr (.inr (.inr (fun _ => none)))))), ((w 4), .inl (k 6, 6, .inr (.inr (.inr (.inr (fun _ => none))))))] sz)) 0 0 (va_A [(mo, .inr (13, [.int 0, .ref (w 0), .int 0, .ref (w 1), .int 0, .int 0, .ref (w 2), .int 0, .ref (w 3), .ref (w 4), .int 0])), ((w 0), .inl (k 5, 3, .inr (.inr (.inr (.inr (fun i => some (w (5 + i)))))))), ((w 5), .inl (k 0, 768, .inl (fun _ => 0))), ((w 6), .inl (k 0, 768, .inl (fun _ => 0))), ((w 7), .inl (k 0, 768, .inl (fun _ => 0))), ((w 1), .inl (k 6, 8, .inr (.inr (.inr (.inr (fun _ => none)))))), ((w 2), .inl (k 6, 20, .inr (.inr (.inr (.inr (fun _ => none)))))), ((w 4), .inl (k 6, 6, .inr (.inr (.inr (.inr (fun _ => none))))))] sz) := by
  refine Met.ofW (cc := cX12_different) (maxL := 8) (ret := (some .int)) (by decide) rfl ?_
  intro p e s m args below meth c s₁ B hml hv
  obtain ⟨rfl, rfl, hP, hC, hD0, hHf⟩ := hv
  have hx := B.exec
  have hb := B.bytes
  have hr := B.returns
  have hts := atoms_spec (ws := wsX12_different) B.pre
  have hown : s.vm.findClass RX12 = some m.cls := findClass_of_methodNamed B.named
  have hlocks := B.notSynchronized
  have hD := hD0.self (sz := s.heap.size)
  generalize hAe : va_A [(mo, .inr (13, [.int 0, .ref (w 0), .int 0, .ref (w 1), .int 0, .int 0, .ref (w 2), .int 0, .ref (w 3), .ref (w 4), .int 0])), ((w 0), .inl (k 5, 3, .inr (.inr (.inr (.inr (fun i => some (w (5 + i)))))))), ((w 5), .inl (k 0, 768, .inl (fun _ => 0))), ((w 6), .inl (k 0, 768, .inl (fun _ => 0))), ((w 7), .inl (k 0, 768, .inl (fun _ => 0))), ((w 1), .inl (k 6, 8, .inr (.inr (.inr (.inr (fun _ => none)))))), ((w 2), .inl (k 6, 20, .inr (.inr (.inr (.inr (fun _ => none)))))), ((w 4), .inl (k 6, 6, .inr (.inr (.inr (.inr (fun _ => none))))))] s.heap.size = A at hD hHf ⊢
  have hA : ∀ q : Nat, s.heap.size ≤ q → A q := fun q h => by rw [← hAe]; exact Or.inr h
  have hS : va_S A s.heap s.heap [] := va_S.rf
  refine w_entry (Nat.le_of_ble_eq_true rfl) (fun ls hl => ?_)
  have hl : lv_has ls 8 [(0, .ref mo), (1, .int n)] := hl
  refine lv_aload_n hx hb dX12_different_0 rfl (lv_at hl 0 rfl) ?_
  refine lv_iload_n hx hb dX12_different_1 rfl (lv_at hl 1 rfl) ?_
  have hPc := hP.sub (ws' := [(mo, .inr (13, [.int 0, .ref (w 0), .int 0, .ref (w 1), .int 0, .int 0, .ref (w 2), .int 0, .ref (w 3), .ref (w 4), .int 0]))]) [0] rfl
  have hDc := hD.sub (ws' := [(mo, .inr (13, [.int 0, .ref (w 0), .int 0, .ref (w 1), .int 0, .int 0, .ref (w 2), .int 0, .ref (w 3), .ref (w 4), .int 0]))]) [0] (by decide) rfl
  have hFc := va_free (wc := [(mo, .inr (13, [.int 0, .ref (w 0), .int 0, .ref (w 1), .int 0, .int 0, .ref (w 2), .int 0, .ref (w 3), .ref (w 4), .int 0]))]) hD hS hA [0] rfl
  refine va_calli (va_runV (As := [.int n]) (rest := []) ⟨hx, hb, hml, hown, hts⟩ (k_X12_failsQuery l D k e0 s.heap.size mo w n) (cwV 1 hts gX12_different_X12_failsQuery rfl rfl rfl (by decide +kernel) ⟨Nat.le_of_ble_eq_true rfl, Nat.le_of_ble_eq_true rfl⟩) ⟨mPc_fb, va_recv hC.1 hPc (ci := 13) (q0 := 0) rfl rfl, mPc_go hC hHf hS hPc hDc hFc⟩ rfl rfl hl.1 rfl (lv_room (Nat.le_of_ble_eq_true rfl)) dX12_different_2 ⟨Nat.le_of_ble_eq_true rfl, Nat.le_of_ble_eq_true rfl⟩) hS (fun q9 _ h9 => hFc q9 h9) hFc (fun r2 u1 t H locs ht hvm hw_r2 hB hz1 hk1 hS => ?_)
  obtain ⟨hP1, hD1⟩ := hB
  rw [ht] at hP1
  obtain ⟨hP, hD⟩ := va_join (wr := [((w 0), .inl (k 5, 3, .inr (.inr (.inr (.inr (fun i => some (w (5 + i)))))))), ((w 5), .inl (k 0, 768, .inl (fun _ => 0))), ((w 6), .inl (k 0, 768, .inl (fun _ => 0))), ((w 7), .inl (k 0, 768, .inl (fun _ => 0))), ((w 1), .inl (k 6, 8, .inr (.inr (.inr (.inr (fun _ => none)))))), ((w 2), .inl (k 6, 20, .inr (.inr (.inr (.inr (fun _ => none)))))), ((w 4), .inl (k 6, 6, .inr (.inr (.inr (.inr (fun _ => none))))))]) (w1 := [(mo, .inr (13, [.int 1, .ref (w 0), .int 0, .ref (w 1), .int 0, .int 0, .ref (w 2), .int 0, .ref (w 3), .ref (w 4), .int 0]))]) hP hD [0] [1, 2, 3, 4, 5, 6, 7] rfl rfl (by decide) (by decide) hk1 hFc hP1 hD1
  have hP : va_P D vwCl [((w 0), .inl (k 5, 3, .inr (.inr (.inr (.inr (fun i => some (w (5 + i)))))))), ((w 5), .inl (k 0, 768, .inl (fun _ => 0))), ((w 6), .inl (k 0, 768, .inl (fun _ => 0))), ((w 7), .inl (k 0, 768, .inl (fun _ => 0))), ((w 1), .inl (k 6, 8, .inr (.inr (.inr (.inr (fun _ => none)))))), ((w 2), .inl (k 6, 20, .inr (.inr (.inr (.inr (fun _ => none)))))), ((w 4), .inl (k 6, 6, .inr (.inr (.inr (.inr (fun _ => none)))))), (mo, .inr (13, [.int 1, .ref (w 0), .int 0, .ref (w 1), .int 0, .int 0, .ref (w 2), .int 0, .ref (w 3), .ref (w 4), .int 0]))] H := hP
  have hD : va_D A [((w 0), .inl (k 5, 3, .inr (.inr (.inr (.inr (fun i => some (w (5 + i)))))))), ((w 5), .inl (k 0, 768, .inl (fun _ => 0))), ((w 6), .inl (k 0, 768, .inl (fun _ => 0))), ((w 7), .inl (k 0, 768, .inl (fun _ => 0))), ((w 1), .inl (k 6, 8, .inr (.inr (.inr (.inr (fun _ => none)))))), ((w 2), .inl (k 6, 20, .inr (.inr (.inr (.inr (fun _ => none)))))), ((w 4), .inl (k 6, 6, .inr (.inr (.inr (.inr (fun _ => none)))))), (mo, .inr (13, [.int 1, .ref (w 0), .int 0, .ref (w 1), .int 0, .int 0, .ref (w 2), .int 0, .ref (w 3), .ref (w 4), .int 0]))] := hD
  subst hw_r2
  refine lv_if_eq (tgt := 10) hx hb dX12_different_5 (by decide) (fun c_5 => absurd c_5 (by decide)) (fun c_5 => ?_)
  refine lv_iconst (v := 0) hx hb dX12_different_8 (by decide) ?_
  exact W.iret (v := 0) hx hb hr (fun t ht hW => ⟨⟨0, [.int 1, .ref (w 0), .int 0, .ref (w 1), .int 0, .int 0, .ref (w 2), .int 0, .ref (w 3), .ref (w 4), .int 0], rfl, rfl, ⟨by rw [ht]; exact hP.sub [7] rfl, hD.sub [7] (by decide) rfl⟩⟩, hS.F ht⟩) hS.2.2 dX12_different_9

set_option maxHeartbeats 4000000 in
set_option maxRecDepth 100000 in
theorem k_X12_addRows (l : Launch) (D : va_G) (k : Nat → ClassId) (e0 : Nat) (sz : Nat) (mo : Nat) (w : Nat → Nat) (n g x y z : Int32) : Met l yX12_addRows wsX12_addRows ({ frames := 3, cells := 0, slots := 0, locals := 68 }) (mPc D k e0 sz [.ref mo, .int n, .int g, .int x, .int y, .int z] [(mo, .inr (13, [.int 0, .ref (w 0), .int 0, .ref (w 1), .int 0, .int 0, .ref (w 2), .int 0, .ref (w 3), .ref (w 4), .int 0])), ((w 0), .inl (k 5, 3, .inr (.inr (.inr (.inr (fun i => some (w (5 + i)))))))), ((w 5), .inl (k 0, 768, .inl (fun _ => 0))), ((w 6), .inl (k 0, 768, .inl (fun _ => 0))), ((w 7), .inl (k 0, 768, .inl (fun _ => 0))), ((w 1), .inl (k 6, 8, .inr (.inr (.inr (.inr (fun _ => none)))))), ((w 2), .inl (k 6, 20, .inr (.inr (.inr (.inr (fun _ => none)))))), ((w 4), .inl (k 6, 6, .inr (.inr (.inr (.inr (fun _ => none))))))]) (va_Qi (fun r (u : List Value) => u[0]? = some (.int 1)) (fun u t => va_P D vwCl [(mo, .inr (13, u))] t.heap ∧ va_D (va_A [(mo, .inr (13, [.int 0, .ref (w 0), .int 0, .ref (w 1), .int 0, .int 0, .ref (w 2), .int 0, .ref (w 3), .ref (w 4), .int 0])), ((w 0), .inl (k 5, 3, .inr (.inr (.inr (.inr (fun i => some (w (5 + i)))))))), ((w 5), .inl (k 0, 768, .inl (fun _ => 0))), ((w 6), .inl (k 0, 768, .inl (fun _ => 0))), ((w 7), .inl (k 0, 768, .inl (fun _ => 0))), ((w 1), .inl (k 6, 8, .inr (.inr (.inr (.inr (fun _ => none)))))), ((w 2), .inl (k 6, 20, .inr (.inr (.inr (.inr (fun _ => none)))))), ((w 4), .inl (k 6, 6, .inr (.inr (.inr (.inr (fun _ => none))))))] sz) [(mo, .inr (13, u))]) (va_A [(mo, .inr (13, [.int 0, .ref (w 0), .int 0, .ref (w 1), .int 0, .int 0, .ref (w 2), .int 0, .ref (w 3), .ref (w 4), .int 0])), ((w 0), .inl (k 5, 3, .inr (.inr (.inr (.inr (fun i => some (w (5 + i)))))))), ((w 5), .inl (k 0, 768, .inl (fun _ => 0))), ((w 6), .inl (k 0, 768, .inl (fun _ => 0))), ((w 7), .inl (k 0, 768, .inl (fun _ => 0))), ((w 1), .inl (k 6, 8, .inr (.inr (.inr (.inr (fun _ => none)))))), ((w 2), .inl (k 6, 20, .inr (.inr (.inr (.inr (fun _ => none)))))), ((w 4), .inl (k 6, 6, .inr (.inr (.inr (.inr (fun _ => none))))))] sz)) 0 0 (va_A [(mo, .inr (13, [.int 0, .ref (w 0), .int 0, .ref (w 1), .int 0, .int 0, .ref (w 2), .int 0, .ref (w 3), .ref (w 4), .int 0])), ((w 0), .inl (k 5, 3, .inr (.inr (.inr (.inr (fun i => some (w (5 + i)))))))), ((w 5), .inl (k 0, 768, .inl (fun _ => 0))), ((w 6), .inl (k 0, 768, .inl (fun _ => 0))), ((w 7), .inl (k 0, 768, .inl (fun _ => 0))), ((w 1), .inl (k 6, 8, .inr (.inr (.inr (.inr (fun _ => none)))))), ((w 2), .inl (k 6, 20, .inr (.inr (.inr (.inr (fun _ => none)))))), ((w 4), .inl (k 6, 6, .inr (.inr (.inr (.inr (fun _ => none))))))] sz) := by
  refine Met.ofW (cc := cX12_addRows) (maxL := 9) (ret := (some .int)) (by decide) rfl ?_
  intro p e s m args below meth c s₁ B hml hv
  obtain ⟨rfl, rfl, hP, hC, hD0, hHf⟩ := hv
  have hx := B.exec
  have hb := B.bytes
  have hr := B.returns
  have hts := atoms_spec (ws := wsX12_addRows) B.pre
  have hown : s.vm.findClass RX12 = some m.cls := findClass_of_methodNamed B.named
  have hlocks := B.notSynchronized
  have hD := hD0.self (sz := s.heap.size)
  generalize hAe : va_A [(mo, .inr (13, [.int 0, .ref (w 0), .int 0, .ref (w 1), .int 0, .int 0, .ref (w 2), .int 0, .ref (w 3), .ref (w 4), .int 0])), ((w 0), .inl (k 5, 3, .inr (.inr (.inr (.inr (fun i => some (w (5 + i)))))))), ((w 5), .inl (k 0, 768, .inl (fun _ => 0))), ((w 6), .inl (k 0, 768, .inl (fun _ => 0))), ((w 7), .inl (k 0, 768, .inl (fun _ => 0))), ((w 1), .inl (k 6, 8, .inr (.inr (.inr (.inr (fun _ => none)))))), ((w 2), .inl (k 6, 20, .inr (.inr (.inr (.inr (fun _ => none)))))), ((w 4), .inl (k 6, 6, .inr (.inr (.inr (.inr (fun _ => none))))))] s.heap.size = A at hD hHf ⊢
  have hA : ∀ q : Nat, s.heap.size ≤ q → A q := fun q h => by rw [← hAe]; exact Or.inr h
  have hS : va_S A s.heap s.heap [] := va_S.rf
  refine w_entry (Nat.le_of_ble_eq_true rfl) (fun ls hl => ?_)
  have hl : lv_has ls 9 [(0, .ref mo), (1, .int n), (2, .int g), (3, .int x), (4, .int y), (5, .int z)] := hl
  refine lv_aload_n hx hb dX12_addRows_0 rfl (lv_at hl 0 rfl) ?_
  refine lv_iload_n hx hb dX12_addRows_1 rfl (lv_at hl 1 rfl) ?_
  refine lv_iload_n hx hb dX12_addRows_2 rfl (lv_at hl 2 rfl) ?_
  refine lv_iload_n hx hb dX12_addRows_3 rfl (lv_at hl 3 rfl) ?_
  refine lv_iload hx hb dX12_addRows_4 (lv_at hl 4 rfl) ?_
  refine lv_iload hx hb dX12_addRows_6 (lv_at hl 5 rfl) ?_
  have hPc := hP.sub (ws' := [(mo, .inr (13, [.int 0, .ref (w 0), .int 0, .ref (w 1), .int 0, .int 0, .ref (w 2), .int 0, .ref (w 3), .ref (w 4), .int 0]))]) [0] rfl
  have hDc := hD.sub (ws' := [(mo, .inr (13, [.int 0, .ref (w 0), .int 0, .ref (w 1), .int 0, .int 0, .ref (w 2), .int 0, .ref (w 3), .ref (w 4), .int 0]))]) [0] (by decide) rfl
  have hFc := va_free (wc := [(mo, .inr (13, [.int 0, .ref (w 0), .int 0, .ref (w 1), .int 0, .int 0, .ref (w 2), .int 0, .ref (w 3), .ref (w 4), .int 0]))]) hD hS hA [0] rfl
  refine va_calli (va_runV (As := [.int n, .int g, .int x, .int y, .int z]) (rest := []) ⟨hx, hb, hml, hown, hts⟩ (k_X12_failsRows l D k e0 s.heap.size mo w n g x y z) (cwV 5 hts gX12_addRows_X12_failsRows rfl rfl rfl (by decide +kernel) ⟨Nat.le_of_ble_eq_true rfl, Nat.le_of_ble_eq_true rfl⟩) ⟨mPc_fb, va_recv hC.1 hPc (ci := 13) (q0 := 0) rfl rfl, mPc_go hC hHf hS hPc hDc hFc⟩ rfl rfl hl.1 rfl (lv_room (Nat.le_of_ble_eq_true rfl)) dX12_addRows_8 ⟨Nat.le_of_ble_eq_true rfl, Nat.le_of_ble_eq_true rfl⟩) hS (fun q9 _ h9 => hFc q9 h9) hFc (fun r2 u1 t H locs ht hvm hw_r2 hB hz1 hk1 hS => ?_)
  obtain ⟨hP1, hD1⟩ := hB
  rw [ht] at hP1
  obtain ⟨hP, hD⟩ := va_join (wr := [((w 0), .inl (k 5, 3, .inr (.inr (.inr (.inr (fun i => some (w (5 + i)))))))), ((w 5), .inl (k 0, 768, .inl (fun _ => 0))), ((w 6), .inl (k 0, 768, .inl (fun _ => 0))), ((w 7), .inl (k 0, 768, .inl (fun _ => 0))), ((w 1), .inl (k 6, 8, .inr (.inr (.inr (.inr (fun _ => none)))))), ((w 2), .inl (k 6, 20, .inr (.inr (.inr (.inr (fun _ => none)))))), ((w 4), .inl (k 6, 6, .inr (.inr (.inr (.inr (fun _ => none))))))]) (w1 := [(mo, .inr (13, [.int 1, .ref (w 0), .int 0, .ref (w 1), .int 0, .int 0, .ref (w 2), .int 0, .ref (w 3), .ref (w 4), .int 0]))]) hP hD [0] [1, 2, 3, 4, 5, 6, 7] rfl rfl (by decide) (by decide) hk1 hFc hP1 hD1
  have hP : va_P D vwCl [((w 0), .inl (k 5, 3, .inr (.inr (.inr (.inr (fun i => some (w (5 + i)))))))), ((w 5), .inl (k 0, 768, .inl (fun _ => 0))), ((w 6), .inl (k 0, 768, .inl (fun _ => 0))), ((w 7), .inl (k 0, 768, .inl (fun _ => 0))), ((w 1), .inl (k 6, 8, .inr (.inr (.inr (.inr (fun _ => none)))))), ((w 2), .inl (k 6, 20, .inr (.inr (.inr (.inr (fun _ => none)))))), ((w 4), .inl (k 6, 6, .inr (.inr (.inr (.inr (fun _ => none)))))), (mo, .inr (13, [.int 1, .ref (w 0), .int 0, .ref (w 1), .int 0, .int 0, .ref (w 2), .int 0, .ref (w 3), .ref (w 4), .int 0]))] H := hP
  have hD : va_D A [((w 0), .inl (k 5, 3, .inr (.inr (.inr (.inr (fun i => some (w (5 + i)))))))), ((w 5), .inl (k 0, 768, .inl (fun _ => 0))), ((w 6), .inl (k 0, 768, .inl (fun _ => 0))), ((w 7), .inl (k 0, 768, .inl (fun _ => 0))), ((w 1), .inl (k 6, 8, .inr (.inr (.inr (.inr (fun _ => none)))))), ((w 2), .inl (k 6, 20, .inr (.inr (.inr (.inr (fun _ => none)))))), ((w 4), .inl (k 6, 6, .inr (.inr (.inr (.inr (fun _ => none)))))), (mo, .inr (13, [.int 1, .ref (w 0), .int 0, .ref (w 1), .int 0, .int 0, .ref (w 2), .int 0, .ref (w 3), .ref (w 4), .int 0]))] := hD
  subst hw_r2
  refine lv_if_eq (tgt := 16) hx hb dX12_addRows_11 (by decide) (fun c_11 => absurd c_11 (by decide)) (fun c_11 => ?_)
  refine lv_iconst (v := 0) hx hb dX12_addRows_14 (by decide) ?_
  exact W.iret (v := 0) hx hb hr (fun t ht hW => ⟨⟨0, [.int 1, .ref (w 0), .int 0, .ref (w 1), .int 0, .int 0, .ref (w 2), .int 0, .ref (w 3), .ref (w 4), .int 0], rfl, rfl, ⟨by rw [ht]; exact hP.sub [7] rfl, hD.sub [7] (by decide) rfl⟩⟩, hS.F ht⟩) hS.2.2 dX12_addRows_15

set_option maxHeartbeats 4000000 in
set_option maxRecDepth 100000 in
theorem k_X12_removeRows (l : Launch) (D : va_G) (k : Nat → ClassId) (e0 : Nat) (sz : Nat) (mo : Nat) (w : Nat → Nat) (n g x y z : Int32) : Met l yX12_removeRows wsX12_removeRows ({ frames := 3, cells := 0, slots := 0, locals := 68 }) (mPc D k e0 sz [.ref mo, .int n, .int g, .int x, .int y, .int z] [(mo, .inr (13, [.int 0, .ref (w 0), .int 0, .ref (w 1), .int 0, .int 0, .ref (w 2), .int 0, .ref (w 3), .ref (w 4), .int 0])), ((w 0), .inl (k 5, 3, .inr (.inr (.inr (.inr (fun i => some (w (5 + i)))))))), ((w 5), .inl (k 0, 768, .inl (fun _ => 0))), ((w 6), .inl (k 0, 768, .inl (fun _ => 0))), ((w 7), .inl (k 0, 768, .inl (fun _ => 0))), ((w 1), .inl (k 6, 8, .inr (.inr (.inr (.inr (fun _ => none)))))), ((w 2), .inl (k 6, 20, .inr (.inr (.inr (.inr (fun _ => none)))))), ((w 4), .inl (k 6, 6, .inr (.inr (.inr (.inr (fun _ => none))))))]) (va_Qi (fun r (u : List Value) => u[0]? = some (.int 1)) (fun u t => va_P D vwCl [(mo, .inr (13, u))] t.heap ∧ va_D (va_A [(mo, .inr (13, [.int 0, .ref (w 0), .int 0, .ref (w 1), .int 0, .int 0, .ref (w 2), .int 0, .ref (w 3), .ref (w 4), .int 0])), ((w 0), .inl (k 5, 3, .inr (.inr (.inr (.inr (fun i => some (w (5 + i)))))))), ((w 5), .inl (k 0, 768, .inl (fun _ => 0))), ((w 6), .inl (k 0, 768, .inl (fun _ => 0))), ((w 7), .inl (k 0, 768, .inl (fun _ => 0))), ((w 1), .inl (k 6, 8, .inr (.inr (.inr (.inr (fun _ => none)))))), ((w 2), .inl (k 6, 20, .inr (.inr (.inr (.inr (fun _ => none)))))), ((w 4), .inl (k 6, 6, .inr (.inr (.inr (.inr (fun _ => none))))))] sz) [(mo, .inr (13, u))]) (va_A [(mo, .inr (13, [.int 0, .ref (w 0), .int 0, .ref (w 1), .int 0, .int 0, .ref (w 2), .int 0, .ref (w 3), .ref (w 4), .int 0])), ((w 0), .inl (k 5, 3, .inr (.inr (.inr (.inr (fun i => some (w (5 + i)))))))), ((w 5), .inl (k 0, 768, .inl (fun _ => 0))), ((w 6), .inl (k 0, 768, .inl (fun _ => 0))), ((w 7), .inl (k 0, 768, .inl (fun _ => 0))), ((w 1), .inl (k 6, 8, .inr (.inr (.inr (.inr (fun _ => none)))))), ((w 2), .inl (k 6, 20, .inr (.inr (.inr (.inr (fun _ => none)))))), ((w 4), .inl (k 6, 6, .inr (.inr (.inr (.inr (fun _ => none))))))] sz)) 0 0 (va_A [(mo, .inr (13, [.int 0, .ref (w 0), .int 0, .ref (w 1), .int 0, .int 0, .ref (w 2), .int 0, .ref (w 3), .ref (w 4), .int 0])), ((w 0), .inl (k 5, 3, .inr (.inr (.inr (.inr (fun i => some (w (5 + i)))))))), ((w 5), .inl (k 0, 768, .inl (fun _ => 0))), ((w 6), .inl (k 0, 768, .inl (fun _ => 0))), ((w 7), .inl (k 0, 768, .inl (fun _ => 0))), ((w 1), .inl (k 6, 8, .inr (.inr (.inr (.inr (fun _ => none)))))), ((w 2), .inl (k 6, 20, .inr (.inr (.inr (.inr (fun _ => none)))))), ((w 4), .inl (k 6, 6, .inr (.inr (.inr (.inr (fun _ => none))))))] sz) := by
  refine Met.ofW (cc := cX12_removeRows) (maxL := 9) (ret := (some .int)) (by decide) rfl ?_
  intro p e s m args below meth c s₁ B hml hv
  obtain ⟨rfl, rfl, hP, hC, hD0, hHf⟩ := hv
  have hx := B.exec
  have hb := B.bytes
  have hr := B.returns
  have hts := atoms_spec (ws := wsX12_removeRows) B.pre
  have hown : s.vm.findClass RX12 = some m.cls := findClass_of_methodNamed B.named
  have hlocks := B.notSynchronized
  have hD := hD0.self (sz := s.heap.size)
  generalize hAe : va_A [(mo, .inr (13, [.int 0, .ref (w 0), .int 0, .ref (w 1), .int 0, .int 0, .ref (w 2), .int 0, .ref (w 3), .ref (w 4), .int 0])), ((w 0), .inl (k 5, 3, .inr (.inr (.inr (.inr (fun i => some (w (5 + i)))))))), ((w 5), .inl (k 0, 768, .inl (fun _ => 0))), ((w 6), .inl (k 0, 768, .inl (fun _ => 0))), ((w 7), .inl (k 0, 768, .inl (fun _ => 0))), ((w 1), .inl (k 6, 8, .inr (.inr (.inr (.inr (fun _ => none)))))), ((w 2), .inl (k 6, 20, .inr (.inr (.inr (.inr (fun _ => none)))))), ((w 4), .inl (k 6, 6, .inr (.inr (.inr (.inr (fun _ => none))))))] s.heap.size = A at hD hHf ⊢
  have hA : ∀ q : Nat, s.heap.size ≤ q → A q := fun q h => by rw [← hAe]; exact Or.inr h
  have hS : va_S A s.heap s.heap [] := va_S.rf
  refine w_entry (Nat.le_of_ble_eq_true rfl) (fun ls hl => ?_)
  have hl : lv_has ls 9 [(0, .ref mo), (1, .int n), (2, .int g), (3, .int x), (4, .int y), (5, .int z)] := hl
  refine lv_aload_n hx hb dX12_removeRows_0 rfl (lv_at hl 0 rfl) ?_
  refine lv_iload_n hx hb dX12_removeRows_1 rfl (lv_at hl 1 rfl) ?_
  refine lv_iload_n hx hb dX12_removeRows_2 rfl (lv_at hl 2 rfl) ?_
  refine lv_iload_n hx hb dX12_removeRows_3 rfl (lv_at hl 3 rfl) ?_
  refine lv_iload hx hb dX12_removeRows_4 (lv_at hl 4 rfl) ?_
  refine lv_iload hx hb dX12_removeRows_6 (lv_at hl 5 rfl) ?_
  have hPc := hP.sub (ws' := [(mo, .inr (13, [.int 0, .ref (w 0), .int 0, .ref (w 1), .int 0, .int 0, .ref (w 2), .int 0, .ref (w 3), .ref (w 4), .int 0]))]) [0] rfl
  have hDc := hD.sub (ws' := [(mo, .inr (13, [.int 0, .ref (w 0), .int 0, .ref (w 1), .int 0, .int 0, .ref (w 2), .int 0, .ref (w 3), .ref (w 4), .int 0]))]) [0] (by decide) rfl
  have hFc := va_free (wc := [(mo, .inr (13, [.int 0, .ref (w 0), .int 0, .ref (w 1), .int 0, .int 0, .ref (w 2), .int 0, .ref (w 3), .ref (w 4), .int 0]))]) hD hS hA [0] rfl
  refine va_calli (va_runV (As := [.int n, .int g, .int x, .int y, .int z]) (rest := []) ⟨hx, hb, hml, hown, hts⟩ (k_X12_failsRows l D k e0 s.heap.size mo w n g x y z) (cwV 5 hts gX12_removeRows_X12_failsRows rfl rfl rfl (by decide +kernel) ⟨Nat.le_of_ble_eq_true rfl, Nat.le_of_ble_eq_true rfl⟩) ⟨mPc_fb, va_recv hC.1 hPc (ci := 13) (q0 := 0) rfl rfl, mPc_go hC hHf hS hPc hDc hFc⟩ rfl rfl hl.1 rfl (lv_room (Nat.le_of_ble_eq_true rfl)) dX12_removeRows_8 ⟨Nat.le_of_ble_eq_true rfl, Nat.le_of_ble_eq_true rfl⟩) hS (fun q9 _ h9 => hFc q9 h9) hFc (fun r2 u1 t H locs ht hvm hw_r2 hB hz1 hk1 hS => ?_)
  obtain ⟨hP1, hD1⟩ := hB
  rw [ht] at hP1
  obtain ⟨hP, hD⟩ := va_join (wr := [((w 0), .inl (k 5, 3, .inr (.inr (.inr (.inr (fun i => some (w (5 + i)))))))), ((w 5), .inl (k 0, 768, .inl (fun _ => 0))), ((w 6), .inl (k 0, 768, .inl (fun _ => 0))), ((w 7), .inl (k 0, 768, .inl (fun _ => 0))), ((w 1), .inl (k 6, 8, .inr (.inr (.inr (.inr (fun _ => none)))))), ((w 2), .inl (k 6, 20, .inr (.inr (.inr (.inr (fun _ => none)))))), ((w 4), .inl (k 6, 6, .inr (.inr (.inr (.inr (fun _ => none))))))]) (w1 := [(mo, .inr (13, [.int 1, .ref (w 0), .int 0, .ref (w 1), .int 0, .int 0, .ref (w 2), .int 0, .ref (w 3), .ref (w 4), .int 0]))]) hP hD [0] [1, 2, 3, 4, 5, 6, 7] rfl rfl (by decide) (by decide) hk1 hFc hP1 hD1
  have hP : va_P D vwCl [((w 0), .inl (k 5, 3, .inr (.inr (.inr (.inr (fun i => some (w (5 + i)))))))), ((w 5), .inl (k 0, 768, .inl (fun _ => 0))), ((w 6), .inl (k 0, 768, .inl (fun _ => 0))), ((w 7), .inl (k 0, 768, .inl (fun _ => 0))), ((w 1), .inl (k 6, 8, .inr (.inr (.inr (.inr (fun _ => none)))))), ((w 2), .inl (k 6, 20, .inr (.inr (.inr (.inr (fun _ => none)))))), ((w 4), .inl (k 6, 6, .inr (.inr (.inr (.inr (fun _ => none)))))), (mo, .inr (13, [.int 1, .ref (w 0), .int 0, .ref (w 1), .int 0, .int 0, .ref (w 2), .int 0, .ref (w 3), .ref (w 4), .int 0]))] H := hP
  have hD : va_D A [((w 0), .inl (k 5, 3, .inr (.inr (.inr (.inr (fun i => some (w (5 + i)))))))), ((w 5), .inl (k 0, 768, .inl (fun _ => 0))), ((w 6), .inl (k 0, 768, .inl (fun _ => 0))), ((w 7), .inl (k 0, 768, .inl (fun _ => 0))), ((w 1), .inl (k 6, 8, .inr (.inr (.inr (.inr (fun _ => none)))))), ((w 2), .inl (k 6, 20, .inr (.inr (.inr (.inr (fun _ => none)))))), ((w 4), .inl (k 6, 6, .inr (.inr (.inr (.inr (fun _ => none)))))), (mo, .inr (13, [.int 1, .ref (w 0), .int 0, .ref (w 1), .int 0, .int 0, .ref (w 2), .int 0, .ref (w 3), .ref (w 4), .int 0]))] := hD
  subst hw_r2
  refine lv_if_eq (tgt := 16) hx hb dX12_removeRows_11 (by decide) (fun c_11 => absurd c_11 (by decide)) (fun c_11 => ?_)
  refine lv_iconst (v := 0) hx hb dX12_removeRows_14 (by decide) ?_
  exact W.iret (v := 0) hx hb hr (fun t ht hW => ⟨⟨0, [.int 1, .ref (w 0), .int 0, .ref (w 1), .int 0, .int 0, .ref (w 2), .int 0, .ref (w 3), .ref (w 4), .int 0], rfl, rfl, ⟨by rw [ht]; exact hP.sub [7] rfl, hD.sub [7] (by decide) rfl⟩⟩, hS.F ht⟩) hS.2.2 dX12_removeRows_15

set_option maxHeartbeats 4000000 in
set_option maxRecDepth 100000 in
theorem k_X12_addShape (l : Launch) (D : va_G) (k : Nat → ClassId) (e0 : Nat) (sz : Nat) (mo : Nat) (w : Nat → Nat) (g w1 x y z : Int32) : Met l yX12_addShape wsX12_addShape ({ frames := 2, cells := 1, slots := 5, locals := 42 }) (mPc D k e0 sz [.ref mo, .int g, .int w1, .int x, .int y, .int z] [(mo, .inr (13, [.int 0, .ref (w 0), .int 0, .ref (w 1), .int 0, .int 0, .ref (w 2), .int 0, .ref (w 3), .ref (w 4), .int 0])), ((w 0), .inl (k 5, 3, .inr (.inr (.inr (.inr (fun i => some (w (5 + i)))))))), ((w 5), .inl (k 0, 768, .inl (fun _ => 0))), ((w 6), .inl (k 0, 768, .inl (fun _ => 0))), ((w 7), .inl (k 0, 768, .inl (fun _ => 0))), ((w 1), .inl (k 6, 8, .inr (.inr (.inr (.inr (fun _ => none)))))), ((w 2), .inl (k 6, 20, .inr (.inr (.inr (.inr (fun _ => none)))))), ((w 4), .inl (k 6, 6, .inr (.inr (.inr (.inr (fun _ => none))))))]) (va_Qi (fun r (u : List Value) => (((0 ≤ g.toInt ∧ g.toInt < 4) ∧ (0 ≤ w1.toInt ∧ w1.toInt < 8) ∧ (0 ≤ x.toInt ∧ x.toInt < 8) ∧ 0 ≤ y.toInt ∧ z.toInt ≤ 9 ∧ y.toInt ≤ z.toInt) ∧ u[0]? = some (.int 0) ∧ r = 0) ∨ (¬ ((0 ≤ g.toInt ∧ g.toInt < 4) ∧ (0 ≤ w1.toInt ∧ w1.toInt < 8) ∧ (0 ≤ x.toInt ∧ x.toInt < 8) ∧ 0 ≤ y.toInt ∧ z.toInt ≤ 9 ∧ y.toInt ≤ z.toInt) ∧ u[0]? = some (.int 1))) (fun u t => va_P D vwCl [(mo, .inr (13, u))] t.heap ∧ va_D (va_A [(mo, .inr (13, [.int 0, .ref (w 0), .int 0, .ref (w 1), .int 0, .int 0, .ref (w 2), .int 0, .ref (w 3), .ref (w 4), .int 0])), ((w 0), .inl (k 5, 3, .inr (.inr (.inr (.inr (fun i => some (w (5 + i)))))))), ((w 5), .inl (k 0, 768, .inl (fun _ => 0))), ((w 6), .inl (k 0, 768, .inl (fun _ => 0))), ((w 7), .inl (k 0, 768, .inl (fun _ => 0))), ((w 1), .inl (k 6, 8, .inr (.inr (.inr (.inr (fun _ => none)))))), ((w 2), .inl (k 6, 20, .inr (.inr (.inr (.inr (fun _ => none)))))), ((w 4), .inl (k 6, 6, .inr (.inr (.inr (.inr (fun _ => none))))))] sz) [(mo, .inr (13, u))]) (va_A [(mo, .inr (13, [.int 0, .ref (w 0), .int 0, .ref (w 1), .int 0, .int 0, .ref (w 2), .int 0, .ref (w 3), .ref (w 4), .int 0])), ((w 0), .inl (k 5, 3, .inr (.inr (.inr (.inr (fun i => some (w (5 + i)))))))), ((w 5), .inl (k 0, 768, .inl (fun _ => 0))), ((w 6), .inl (k 0, 768, .inl (fun _ => 0))), ((w 7), .inl (k 0, 768, .inl (fun _ => 0))), ((w 1), .inl (k 6, 8, .inr (.inr (.inr (.inr (fun _ => none)))))), ((w 2), .inl (k 6, 20, .inr (.inr (.inr (.inr (fun _ => none)))))), ((w 4), .inl (k 6, 6, .inr (.inr (.inr (.inr (fun _ => none))))))] sz)) 1 5 (va_A [(mo, .inr (13, [.int 0, .ref (w 0), .int 0, .ref (w 1), .int 0, .int 0, .ref (w 2), .int 0, .ref (w 3), .ref (w 4), .int 0])), ((w 0), .inl (k 5, 3, .inr (.inr (.inr (.inr (fun i => some (w (5 + i)))))))), ((w 5), .inl (k 0, 768, .inl (fun _ => 0))), ((w 6), .inl (k 0, 768, .inl (fun _ => 0))), ((w 7), .inl (k 0, 768, .inl (fun _ => 0))), ((w 1), .inl (k 6, 8, .inr (.inr (.inr (.inr (fun _ => none)))))), ((w 2), .inl (k 6, 20, .inr (.inr (.inr (.inr (fun _ => none)))))), ((w 4), .inl (k 6, 6, .inr (.inr (.inr (.inr (fun _ => none))))))] sz) := by
  refine Met.ofW (cc := cX12_addShape) (maxL := 7) (ret := (some .int)) (by decide) rfl ?_
  intro p e s m args below meth c s₁ B hml hv
  obtain ⟨rfl, rfl, hP, hC, hD0, hHf⟩ := hv
  have hx := B.exec
  have hb := B.bytes
  have hr := B.returns
  have hts := atoms_spec (ws := wsX12_addShape) B.pre
  have hown : s.vm.findClass RX12 = some m.cls := findClass_of_methodNamed B.named
  have hlocks := B.notSynchronized
  have hD := hD0.self (sz := s.heap.size)
  generalize hAe : va_A [(mo, .inr (13, [.int 0, .ref (w 0), .int 0, .ref (w 1), .int 0, .int 0, .ref (w 2), .int 0, .ref (w 3), .ref (w 4), .int 0])), ((w 0), .inl (k 5, 3, .inr (.inr (.inr (.inr (fun i => some (w (5 + i)))))))), ((w 5), .inl (k 0, 768, .inl (fun _ => 0))), ((w 6), .inl (k 0, 768, .inl (fun _ => 0))), ((w 7), .inl (k 0, 768, .inl (fun _ => 0))), ((w 1), .inl (k 6, 8, .inr (.inr (.inr (.inr (fun _ => none)))))), ((w 2), .inl (k 6, 20, .inr (.inr (.inr (.inr (fun _ => none)))))), ((w 4), .inl (k 6, 6, .inr (.inr (.inr (.inr (fun _ => none))))))] s.heap.size = A at hD hHf ⊢
  have hA : ∀ q : Nat, s.heap.size ≤ q → A q := fun q h => by rw [← hAe]; exact Or.inr h
  have hS : va_S A s.heap s.heap [] := va_S.rf
  have z9 : (9 : Int32).toInt = 9 := by decide
  refine w_entry (Nat.le_of_ble_eq_true rfl) (fun ls hl => ?_)
  have hl : lv_has ls 7 [(0, .ref mo), (1, .int g), (2, .int w1), (3, .int x), (4, .int y), (5, .int z)] := hl
  refine lv_iload_n hx hb dX12_addShape_0 rfl (lv_at hl 1 rfl) ?_
  refine lv_iconst (v := 0) hx hb dX12_addShape_1 (by decide) ?_
  refine lv_iconst (v := 3) hx hb dX12_addShape_2 (by decide) ?_
  refine pz_i (va_runS (As := [.int g, .int 0, .int 3]) (rest := []) ⟨hx, hb, hml, hown, hts⟩ (k_X12_in l D k s.heap g 0 3) (va_cwS 3 hts gX12_addShape_X12_in rfl rfl rfl (by decide +kernel) ⟨Nat.le_of_ble_eq_true rfl, Nat.le_of_ble_eq_true rfl⟩) ⟨pPc_fb, pPc_go hC⟩ rfl rfl hl.1 rfl (lv_room (Nat.le_of_ble_eq_true rfl)) dX12_addShape_3 ⟨Nat.le_of_ble_eq_true rfl, Nat.le_of_ble_eq_true rfl⟩) hS (fun r1 locs hw_r1 hS => ?_)
  have hw_r1 : r1 = bi (0 ≤ g.toInt ∧ g.toInt ≤ 3) := hw_r1
  refine lv_if_eq (tgt := 50) hx hb dX12_addShape_6 (by decide) (fun c_6 => ?_) (fun c_6 => ?_)
  · have f_6 := bi_z hw_r1 c_6
    refine lv_iconst (v := 0) hx hb dX12_addShape_50 (by decide) ?_
    refine lv_istore (lv' := [(6, .int 0), (0, .ref mo), (1, .int g), (2, .int w1), (3, .int x), (4, .int y), (5, .int z)]) hx hb dX12_addShape_51 hl (by decide) rfl (fun ls hl => ?_)
    refine lv_aload_n hx hb dX12_addShape_53 rfl (lv_at hl 1 rfl) ?_
    refine lv_iload hx hb dX12_addShape_54 (lv_at hl 0 rfl) ?_
    refine lv_if_ne (tgt := 63) hx hb dX12_addShape_56 (by decide) (fun c_56 => absurd c_56 (by decide)) (fun c_56 => ?_)
    refine lv_iconst (v := 1) hx hb dX12_addShape_59 (by decide) ?_
    refine lv_goto (tgt := 77) hx hb dX12_addShape_60 (by decide) ?_
    have hPc := hP.sub (ws' := [(mo, .inr (13, [.int 0, .ref (w 0), .int 0, .ref (w 1), .int 0, .int 0, .ref (w 2), .int 0, .ref (w 3), .ref (w 4), .int 0]))]) [0] rfl
    have hDc := hD.sub (ws' := [(mo, .inr (13, [.int 0, .ref (w 0), .int 0, .ref (w 1), .int 0, .int 0, .ref (w 2), .int 0, .ref (w 3), .ref (w 4), .int 0]))]) [0] (by decide) rfl
    have hFc := va_free (wc := [(mo, .inr (13, [.int 0, .ref (w 0), .int 0, .ref (w 1), .int 0, .int 0, .ref (w 2), .int 0, .ref (w 3), .ref (w 4), .int 0]))]) hD hS hA [0] rfl
    refine va_calli (va_runV (As := [.int 1]) (rest := []) ⟨hx, hb, hml, hown, hts⟩ (k_X12_fails l D k e0 s.heap.size mo w 0 1) (cwV 1 hts gX12_addShape_X12_fails rfl rfl rfl (by decide +kernel) ⟨Nat.le_of_ble_eq_true rfl, Nat.le_of_ble_eq_true rfl⟩) ⟨mPc_fb, va_recv hC.1 hPc (ci := 13) (q0 := 0) rfl rfl, mPc_go hC hHf hS hPc hDc hFc⟩ rfl rfl hl.1 rfl (lv_room (Nat.le_of_ble_eq_true rfl)) dX12_addShape_77 ⟨Nat.le_of_ble_eq_true rfl, Nat.le_of_ble_eq_true rfl⟩) hS (fun q9 _ h9 => hFc q9 h9) hFc (fun r3 u2 t H locs ht hvm hw_r3 hB hz1 hk1 hS => ?_)
    obtain ⟨hP1, hD1⟩ := hB
    rw [ht] at hP1
    obtain ⟨hP, hD⟩ := va_join (wr := [((w 0), .inl (k 5, 3, .inr (.inr (.inr (.inr (fun i => some (w (5 + i)))))))), ((w 5), .inl (k 0, 768, .inl (fun _ => 0))), ((w 6), .inl (k 0, 768, .inl (fun _ => 0))), ((w 7), .inl (k 0, 768, .inl (fun _ => 0))), ((w 1), .inl (k 6, 8, .inr (.inr (.inr (.inr (fun _ => none)))))), ((w 2), .inl (k 6, 20, .inr (.inr (.inr (.inr (fun _ => none)))))), ((w 4), .inl (k 6, 6, .inr (.inr (.inr (.inr (fun _ => none))))))]) (w1 := [(mo, .inr (13, [.int 1, .ref (w 0), .int 0, .ref (w 1), .int 0, .int 0, .ref (w 2), .int 0, .ref (w 3), .ref (w 4), .int 0]))]) hP hD [0] [1, 2, 3, 4, 5, 6, 7] rfl rfl (by decide) (by decide) hk1 hFc hP1 hD1
    have hP : va_P D vwCl [((w 0), .inl (k 5, 3, .inr (.inr (.inr (.inr (fun i => some (w (5 + i)))))))), ((w 5), .inl (k 0, 768, .inl (fun _ => 0))), ((w 6), .inl (k 0, 768, .inl (fun _ => 0))), ((w 7), .inl (k 0, 768, .inl (fun _ => 0))), ((w 1), .inl (k 6, 8, .inr (.inr (.inr (.inr (fun _ => none)))))), ((w 2), .inl (k 6, 20, .inr (.inr (.inr (.inr (fun _ => none)))))), ((w 4), .inl (k 6, 6, .inr (.inr (.inr (.inr (fun _ => none)))))), (mo, .inr (13, [.int 1, .ref (w 0), .int 0, .ref (w 1), .int 0, .int 0, .ref (w 2), .int 0, .ref (w 3), .ref (w 4), .int 0]))] H := hP
    have hD : va_D A [((w 0), .inl (k 5, 3, .inr (.inr (.inr (.inr (fun i => some (w (5 + i)))))))), ((w 5), .inl (k 0, 768, .inl (fun _ => 0))), ((w 6), .inl (k 0, 768, .inl (fun _ => 0))), ((w 7), .inl (k 0, 768, .inl (fun _ => 0))), ((w 1), .inl (k 6, 8, .inr (.inr (.inr (.inr (fun _ => none)))))), ((w 2), .inl (k 6, 20, .inr (.inr (.inr (.inr (fun _ => none)))))), ((w 4), .inl (k 6, 6, .inr (.inr (.inr (.inr (fun _ => none)))))), (mo, .inr (13, [.int 1, .ref (w 0), .int 0, .ref (w 1), .int 0, .int 0, .ref (w 2), .int 0, .ref (w 3), .ref (w 4), .int 0]))] := hD
    have e_r3 : r3 = 1 := hw_r3.trans (by decide)
    subst e_r3
    refine lv_if_eq (tgt := 85) hx hb dX12_addShape_80 (by decide) (fun c_80 => absurd c_80 (by decide)) (fun c_80 => ?_)
    refine lv_iconst (v := 0) hx hb dX12_addShape_83 (by decide) ?_
    refine W.widen (k := 1) (n := 5) (Nat.le_of_ble_eq_true rfl) (Nat.le_of_ble_eq_true rfl) ?_
    exact W.iret (v := 0) hx hb hr (fun t ht hW => ⟨⟨0, [.int 1, .ref (w 0), .int 0, .ref (w 1), .int 0, .int 0, .ref (w 2), .int 0, .ref (w 3), .ref (w 4), .int 0], rfl, Or.inr ⟨by omega, rfl⟩, ⟨by rw [ht]; exact hP.sub [7] rfl, hD.sub [7] (by decide) rfl⟩⟩, hS.F ht⟩) hS.2.2 dX12_addShape_84
  · have f_6 := bi_n hw_r1 c_6
    refine lv_iload_n hx hb dX12_addShape_9 rfl (lv_at hl 2 rfl) ?_
    refine pz_i (va_runS (As := [.int w1]) (rest := []) ⟨hx, hb, hml, hown, hts⟩ (k_X12_isName l D k s.heap w1) (va_cwS 1 hts gX12_addShape_X12_isName rfl rfl rfl (by decide +kernel) ⟨Nat.le_of_ble_eq_true rfl, Nat.le_of_ble_eq_true rfl⟩) ⟨pPc_fb, pPc_go hC⟩ rfl rfl hl.1 rfl (lv_room (Nat.le_of_ble_eq_true rfl)) dX12_addShape_10 ⟨Nat.le_of_ble_eq_true rfl, Nat.le_of_ble_eq_true rfl⟩) hS (fun r5 locs hw_r5 hS => ?_)
    refine lv_if_eq (tgt := 50) hx hb dX12_addShape_13 (by decide) (fun c_13 => ?_) (fun c_13 => ?_)
    · have f_13 := bi_z hw_r5 c_13
      refine lv_iconst (v := 0) hx hb dX12_addShape_50 (by decide) ?_
      refine lv_istore (lv' := [(6, .int 0), (0, .ref mo), (1, .int g), (2, .int w1), (3, .int x), (4, .int y), (5, .int z)]) hx hb dX12_addShape_51 hl (by decide) rfl (fun ls hl => ?_)
      refine lv_aload_n hx hb dX12_addShape_53 rfl (lv_at hl 1 rfl) ?_
      refine lv_iload hx hb dX12_addShape_54 (lv_at hl 0 rfl) ?_
      refine lv_if_ne (tgt := 63) hx hb dX12_addShape_56 (by decide) (fun c_56 => absurd c_56 (by decide)) (fun c_56 => ?_)
      refine lv_iconst (v := 1) hx hb dX12_addShape_59 (by decide) ?_
      refine lv_goto (tgt := 77) hx hb dX12_addShape_60 (by decide) ?_
      have hPc := hP.sub (ws' := [(mo, .inr (13, [.int 0, .ref (w 0), .int 0, .ref (w 1), .int 0, .int 0, .ref (w 2), .int 0, .ref (w 3), .ref (w 4), .int 0]))]) [0] rfl
      have hDc := hD.sub (ws' := [(mo, .inr (13, [.int 0, .ref (w 0), .int 0, .ref (w 1), .int 0, .int 0, .ref (w 2), .int 0, .ref (w 3), .ref (w 4), .int 0]))]) [0] (by decide) rfl
      have hFc := va_free (wc := [(mo, .inr (13, [.int 0, .ref (w 0), .int 0, .ref (w 1), .int 0, .int 0, .ref (w 2), .int 0, .ref (w 3), .ref (w 4), .int 0]))]) hD hS hA [0] rfl
      refine va_calli (va_runV (As := [.int 1]) (rest := []) ⟨hx, hb, hml, hown, hts⟩ (k_X12_fails l D k e0 s.heap.size mo w 0 1) (cwV 1 hts gX12_addShape_X12_fails rfl rfl rfl (by decide +kernel) ⟨Nat.le_of_ble_eq_true rfl, Nat.le_of_ble_eq_true rfl⟩) ⟨mPc_fb, va_recv hC.1 hPc (ci := 13) (q0 := 0) rfl rfl, mPc_go hC hHf hS hPc hDc hFc⟩ rfl rfl hl.1 rfl (lv_room (Nat.le_of_ble_eq_true rfl)) dX12_addShape_77 ⟨Nat.le_of_ble_eq_true rfl, Nat.le_of_ble_eq_true rfl⟩) hS (fun q9 _ h9 => hFc q9 h9) hFc (fun r7 u6 t H locs ht hvm hw_r7 hB hz1 hk1 hS => ?_)
      obtain ⟨hP1, hD1⟩ := hB
      rw [ht] at hP1
      obtain ⟨hP, hD⟩ := va_join (wr := [((w 0), .inl (k 5, 3, .inr (.inr (.inr (.inr (fun i => some (w (5 + i)))))))), ((w 5), .inl (k 0, 768, .inl (fun _ => 0))), ((w 6), .inl (k 0, 768, .inl (fun _ => 0))), ((w 7), .inl (k 0, 768, .inl (fun _ => 0))), ((w 1), .inl (k 6, 8, .inr (.inr (.inr (.inr (fun _ => none)))))), ((w 2), .inl (k 6, 20, .inr (.inr (.inr (.inr (fun _ => none)))))), ((w 4), .inl (k 6, 6, .inr (.inr (.inr (.inr (fun _ => none))))))]) (w1 := [(mo, .inr (13, [.int 1, .ref (w 0), .int 0, .ref (w 1), .int 0, .int 0, .ref (w 2), .int 0, .ref (w 3), .ref (w 4), .int 0]))]) hP hD [0] [1, 2, 3, 4, 5, 6, 7] rfl rfl (by decide) (by decide) hk1 hFc hP1 hD1
      have hP : va_P D vwCl [((w 0), .inl (k 5, 3, .inr (.inr (.inr (.inr (fun i => some (w (5 + i)))))))), ((w 5), .inl (k 0, 768, .inl (fun _ => 0))), ((w 6), .inl (k 0, 768, .inl (fun _ => 0))), ((w 7), .inl (k 0, 768, .inl (fun _ => 0))), ((w 1), .inl (k 6, 8, .inr (.inr (.inr (.inr (fun _ => none)))))), ((w 2), .inl (k 6, 20, .inr (.inr (.inr (.inr (fun _ => none)))))), ((w 4), .inl (k 6, 6, .inr (.inr (.inr (.inr (fun _ => none)))))), (mo, .inr (13, [.int 1, .ref (w 0), .int 0, .ref (w 1), .int 0, .int 0, .ref (w 2), .int 0, .ref (w 3), .ref (w 4), .int 0]))] H := hP
      have hD : va_D A [((w 0), .inl (k 5, 3, .inr (.inr (.inr (.inr (fun i => some (w (5 + i)))))))), ((w 5), .inl (k 0, 768, .inl (fun _ => 0))), ((w 6), .inl (k 0, 768, .inl (fun _ => 0))), ((w 7), .inl (k 0, 768, .inl (fun _ => 0))), ((w 1), .inl (k 6, 8, .inr (.inr (.inr (.inr (fun _ => none)))))), ((w 2), .inl (k 6, 20, .inr (.inr (.inr (.inr (fun _ => none)))))), ((w 4), .inl (k 6, 6, .inr (.inr (.inr (.inr (fun _ => none)))))), (mo, .inr (13, [.int 1, .ref (w 0), .int 0, .ref (w 1), .int 0, .int 0, .ref (w 2), .int 0, .ref (w 3), .ref (w 4), .int 0]))] := hD
      have e_r7 : r7 = 1 := hw_r7.trans (by decide)
      subst e_r7
      refine lv_if_eq (tgt := 85) hx hb dX12_addShape_80 (by decide) (fun c_80 => absurd c_80 (by decide)) (fun c_80 => ?_)
      refine lv_iconst (v := 0) hx hb dX12_addShape_83 (by decide) ?_
      refine W.widen (k := 1) (n := 5) (Nat.le_of_ble_eq_true rfl) (Nat.le_of_ble_eq_true rfl) ?_
      exact W.iret (v := 0) hx hb hr (fun t ht hW => ⟨⟨0, [.int 1, .ref (w 0), .int 0, .ref (w 1), .int 0, .int 0, .ref (w 2), .int 0, .ref (w 3), .ref (w 4), .int 0], rfl, Or.inr ⟨by omega, rfl⟩, ⟨by rw [ht]; exact hP.sub [7] rfl, hD.sub [7] (by decide) rfl⟩⟩, hS.F ht⟩) hS.2.2 dX12_addShape_84
    · have f_13 := bi_n hw_r5 c_13
      refine lv_iload_n hx hb dX12_addShape_16 rfl (lv_at hl 3 rfl) ?_
      refine pz_i (va_runS (As := [.int x]) (rest := []) ⟨hx, hb, hml, hown, hts⟩ (k_X12_isName l D k s.heap x) (va_cwS 1 hts gX12_addShape_X12_isName rfl rfl rfl (by decide +kernel) ⟨Nat.le_of_ble_eq_true rfl, Nat.le_of_ble_eq_true rfl⟩) ⟨pPc_fb, pPc_go hC⟩ rfl rfl hl.1 rfl (lv_room (Nat.le_of_ble_eq_true rfl)) dX12_addShape_17 ⟨Nat.le_of_ble_eq_true rfl, Nat.le_of_ble_eq_true rfl⟩) hS (fun r9 locs hw_r9 hS => ?_)
      refine lv_if_eq (tgt := 50) hx hb dX12_addShape_20 (by decide) (fun c_20 => ?_) (fun c_20 => ?_)
      · have f_20 := bi_z hw_r9 c_20
        refine lv_iconst (v := 0) hx hb dX12_addShape_50 (by decide) ?_
        refine lv_istore (lv' := [(6, .int 0), (0, .ref mo), (1, .int g), (2, .int w1), (3, .int x), (4, .int y), (5, .int z)]) hx hb dX12_addShape_51 hl (by decide) rfl (fun ls hl => ?_)
        refine lv_aload_n hx hb dX12_addShape_53 rfl (lv_at hl 1 rfl) ?_
        refine lv_iload hx hb dX12_addShape_54 (lv_at hl 0 rfl) ?_
        refine lv_if_ne (tgt := 63) hx hb dX12_addShape_56 (by decide) (fun c_56 => absurd c_56 (by decide)) (fun c_56 => ?_)
        refine lv_iconst (v := 1) hx hb dX12_addShape_59 (by decide) ?_
        refine lv_goto (tgt := 77) hx hb dX12_addShape_60 (by decide) ?_
        have hPc := hP.sub (ws' := [(mo, .inr (13, [.int 0, .ref (w 0), .int 0, .ref (w 1), .int 0, .int 0, .ref (w 2), .int 0, .ref (w 3), .ref (w 4), .int 0]))]) [0] rfl
        have hDc := hD.sub (ws' := [(mo, .inr (13, [.int 0, .ref (w 0), .int 0, .ref (w 1), .int 0, .int 0, .ref (w 2), .int 0, .ref (w 3), .ref (w 4), .int 0]))]) [0] (by decide) rfl
        have hFc := va_free (wc := [(mo, .inr (13, [.int 0, .ref (w 0), .int 0, .ref (w 1), .int 0, .int 0, .ref (w 2), .int 0, .ref (w 3), .ref (w 4), .int 0]))]) hD hS hA [0] rfl
        refine va_calli (va_runV (As := [.int 1]) (rest := []) ⟨hx, hb, hml, hown, hts⟩ (k_X12_fails l D k e0 s.heap.size mo w 0 1) (cwV 1 hts gX12_addShape_X12_fails rfl rfl rfl (by decide +kernel) ⟨Nat.le_of_ble_eq_true rfl, Nat.le_of_ble_eq_true rfl⟩) ⟨mPc_fb, va_recv hC.1 hPc (ci := 13) (q0 := 0) rfl rfl, mPc_go hC hHf hS hPc hDc hFc⟩ rfl rfl hl.1 rfl (lv_room (Nat.le_of_ble_eq_true rfl)) dX12_addShape_77 ⟨Nat.le_of_ble_eq_true rfl, Nat.le_of_ble_eq_true rfl⟩) hS (fun q9 _ h9 => hFc q9 h9) hFc (fun r11 u10 t H locs ht hvm hw_r11 hB hz1 hk1 hS => ?_)
        obtain ⟨hP1, hD1⟩ := hB
        rw [ht] at hP1
        obtain ⟨hP, hD⟩ := va_join (wr := [((w 0), .inl (k 5, 3, .inr (.inr (.inr (.inr (fun i => some (w (5 + i)))))))), ((w 5), .inl (k 0, 768, .inl (fun _ => 0))), ((w 6), .inl (k 0, 768, .inl (fun _ => 0))), ((w 7), .inl (k 0, 768, .inl (fun _ => 0))), ((w 1), .inl (k 6, 8, .inr (.inr (.inr (.inr (fun _ => none)))))), ((w 2), .inl (k 6, 20, .inr (.inr (.inr (.inr (fun _ => none)))))), ((w 4), .inl (k 6, 6, .inr (.inr (.inr (.inr (fun _ => none))))))]) (w1 := [(mo, .inr (13, [.int 1, .ref (w 0), .int 0, .ref (w 1), .int 0, .int 0, .ref (w 2), .int 0, .ref (w 3), .ref (w 4), .int 0]))]) hP hD [0] [1, 2, 3, 4, 5, 6, 7] rfl rfl (by decide) (by decide) hk1 hFc hP1 hD1
        have hP : va_P D vwCl [((w 0), .inl (k 5, 3, .inr (.inr (.inr (.inr (fun i => some (w (5 + i)))))))), ((w 5), .inl (k 0, 768, .inl (fun _ => 0))), ((w 6), .inl (k 0, 768, .inl (fun _ => 0))), ((w 7), .inl (k 0, 768, .inl (fun _ => 0))), ((w 1), .inl (k 6, 8, .inr (.inr (.inr (.inr (fun _ => none)))))), ((w 2), .inl (k 6, 20, .inr (.inr (.inr (.inr (fun _ => none)))))), ((w 4), .inl (k 6, 6, .inr (.inr (.inr (.inr (fun _ => none)))))), (mo, .inr (13, [.int 1, .ref (w 0), .int 0, .ref (w 1), .int 0, .int 0, .ref (w 2), .int 0, .ref (w 3), .ref (w 4), .int 0]))] H := hP
        have hD : va_D A [((w 0), .inl (k 5, 3, .inr (.inr (.inr (.inr (fun i => some (w (5 + i)))))))), ((w 5), .inl (k 0, 768, .inl (fun _ => 0))), ((w 6), .inl (k 0, 768, .inl (fun _ => 0))), ((w 7), .inl (k 0, 768, .inl (fun _ => 0))), ((w 1), .inl (k 6, 8, .inr (.inr (.inr (.inr (fun _ => none)))))), ((w 2), .inl (k 6, 20, .inr (.inr (.inr (.inr (fun _ => none)))))), ((w 4), .inl (k 6, 6, .inr (.inr (.inr (.inr (fun _ => none)))))), (mo, .inr (13, [.int 1, .ref (w 0), .int 0, .ref (w 1), .int 0, .int 0, .ref (w 2), .int 0, .ref (w 3), .ref (w 4), .int 0]))] := hD
        have e_r11 : r11 = 1 := hw_r11.trans (by decide)
        subst e_r11
        refine lv_if_eq (tgt := 85) hx hb dX12_addShape_80 (by decide) (fun c_80 => absurd c_80 (by decide)) (fun c_80 => ?_)
        refine lv_iconst (v := 0) hx hb dX12_addShape_83 (by decide) ?_
        refine W.widen (k := 1) (n := 5) (Nat.le_of_ble_eq_true rfl) (Nat.le_of_ble_eq_true rfl) ?_
        exact W.iret (v := 0) hx hb hr (fun t ht hW => ⟨⟨0, [.int 1, .ref (w 0), .int 0, .ref (w 1), .int 0, .int 0, .ref (w 2), .int 0, .ref (w 3), .ref (w 4), .int 0], rfl, Or.inr ⟨by omega, rfl⟩, ⟨by rw [ht]; exact hP.sub [7] rfl, hD.sub [7] (by decide) rfl⟩⟩, hS.F ht⟩) hS.2.2 dX12_addShape_84
      · have f_20 := bi_n hw_r9 c_20
        refine lv_iload hx hb dX12_addShape_23 (lv_at hl 4 rfl) ?_
        refine lv_iconst (v := 0) hx hb dX12_addShape_25 (by decide) ?_
        refine lv_bipush (v := 9) hx hb dX12_addShape_26 (by decide) ?_
        refine pz_i (va_runS (As := [.int y, .int 0, .int 9]) (rest := []) ⟨hx, hb, hml, hown, hts⟩ (k_X12_in l D k s.heap y 0 9) (va_cwS 3 hts gX12_addShape_X12_in rfl rfl rfl (by decide +kernel) ⟨Nat.le_of_ble_eq_true rfl, Nat.le_of_ble_eq_true rfl⟩) ⟨pPc_fb, pPc_go hC⟩ rfl rfl hl.1 rfl (lv_room (Nat.le_of_ble_eq_true rfl)) dX12_addShape_28 ⟨Nat.le_of_ble_eq_true rfl, Nat.le_of_ble_eq_true rfl⟩) hS (fun r13 locs hw_r13 hS => ?_)
        have hw_r13 : r13 = bi (0 ≤ y.toInt ∧ y.toInt ≤ 9) := hw_r13
        refine lv_if_eq (tgt := 50) hx hb dX12_addShape_31 (by decide) (fun c_31 => ?_) (fun c_31 => ?_)
        · have f_31 := bi_z hw_r13 c_31
          refine lv_iconst (v := 0) hx hb dX12_addShape_50 (by decide) ?_
          refine lv_istore (lv' := [(6, .int 0), (0, .ref mo), (1, .int g), (2, .int w1), (3, .int x), (4, .int y), (5, .int z)]) hx hb dX12_addShape_51 hl (by decide) rfl (fun ls hl => ?_)
          refine lv_aload_n hx hb dX12_addShape_53 rfl (lv_at hl 1 rfl) ?_
          refine lv_iload hx hb dX12_addShape_54 (lv_at hl 0 rfl) ?_
          refine lv_if_ne (tgt := 63) hx hb dX12_addShape_56 (by decide) (fun c_56 => absurd c_56 (by decide)) (fun c_56 => ?_)
          refine lv_iconst (v := 1) hx hb dX12_addShape_59 (by decide) ?_
          refine lv_goto (tgt := 77) hx hb dX12_addShape_60 (by decide) ?_
          have hPc := hP.sub (ws' := [(mo, .inr (13, [.int 0, .ref (w 0), .int 0, .ref (w 1), .int 0, .int 0, .ref (w 2), .int 0, .ref (w 3), .ref (w 4), .int 0]))]) [0] rfl
          have hDc := hD.sub (ws' := [(mo, .inr (13, [.int 0, .ref (w 0), .int 0, .ref (w 1), .int 0, .int 0, .ref (w 2), .int 0, .ref (w 3), .ref (w 4), .int 0]))]) [0] (by decide) rfl
          have hFc := va_free (wc := [(mo, .inr (13, [.int 0, .ref (w 0), .int 0, .ref (w 1), .int 0, .int 0, .ref (w 2), .int 0, .ref (w 3), .ref (w 4), .int 0]))]) hD hS hA [0] rfl
          refine va_calli (va_runV (As := [.int 1]) (rest := []) ⟨hx, hb, hml, hown, hts⟩ (k_X12_fails l D k e0 s.heap.size mo w 0 1) (cwV 1 hts gX12_addShape_X12_fails rfl rfl rfl (by decide +kernel) ⟨Nat.le_of_ble_eq_true rfl, Nat.le_of_ble_eq_true rfl⟩) ⟨mPc_fb, va_recv hC.1 hPc (ci := 13) (q0 := 0) rfl rfl, mPc_go hC hHf hS hPc hDc hFc⟩ rfl rfl hl.1 rfl (lv_room (Nat.le_of_ble_eq_true rfl)) dX12_addShape_77 ⟨Nat.le_of_ble_eq_true rfl, Nat.le_of_ble_eq_true rfl⟩) hS (fun q9 _ h9 => hFc q9 h9) hFc (fun r15 u14 t H locs ht hvm hw_r15 hB hz1 hk1 hS => ?_)
          obtain ⟨hP1, hD1⟩ := hB
          rw [ht] at hP1
          obtain ⟨hP, hD⟩ := va_join (wr := [((w 0), .inl (k 5, 3, .inr (.inr (.inr (.inr (fun i => some (w (5 + i)))))))), ((w 5), .inl (k 0, 768, .inl (fun _ => 0))), ((w 6), .inl (k 0, 768, .inl (fun _ => 0))), ((w 7), .inl (k 0, 768, .inl (fun _ => 0))), ((w 1), .inl (k 6, 8, .inr (.inr (.inr (.inr (fun _ => none)))))), ((w 2), .inl (k 6, 20, .inr (.inr (.inr (.inr (fun _ => none)))))), ((w 4), .inl (k 6, 6, .inr (.inr (.inr (.inr (fun _ => none))))))]) (w1 := [(mo, .inr (13, [.int 1, .ref (w 0), .int 0, .ref (w 1), .int 0, .int 0, .ref (w 2), .int 0, .ref (w 3), .ref (w 4), .int 0]))]) hP hD [0] [1, 2, 3, 4, 5, 6, 7] rfl rfl (by decide) (by decide) hk1 hFc hP1 hD1
          have hP : va_P D vwCl [((w 0), .inl (k 5, 3, .inr (.inr (.inr (.inr (fun i => some (w (5 + i)))))))), ((w 5), .inl (k 0, 768, .inl (fun _ => 0))), ((w 6), .inl (k 0, 768, .inl (fun _ => 0))), ((w 7), .inl (k 0, 768, .inl (fun _ => 0))), ((w 1), .inl (k 6, 8, .inr (.inr (.inr (.inr (fun _ => none)))))), ((w 2), .inl (k 6, 20, .inr (.inr (.inr (.inr (fun _ => none)))))), ((w 4), .inl (k 6, 6, .inr (.inr (.inr (.inr (fun _ => none)))))), (mo, .inr (13, [.int 1, .ref (w 0), .int 0, .ref (w 1), .int 0, .int 0, .ref (w 2), .int 0, .ref (w 3), .ref (w 4), .int 0]))] H := hP
          have hD : va_D A [((w 0), .inl (k 5, 3, .inr (.inr (.inr (.inr (fun i => some (w (5 + i)))))))), ((w 5), .inl (k 0, 768, .inl (fun _ => 0))), ((w 6), .inl (k 0, 768, .inl (fun _ => 0))), ((w 7), .inl (k 0, 768, .inl (fun _ => 0))), ((w 1), .inl (k 6, 8, .inr (.inr (.inr (.inr (fun _ => none)))))), ((w 2), .inl (k 6, 20, .inr (.inr (.inr (.inr (fun _ => none)))))), ((w 4), .inl (k 6, 6, .inr (.inr (.inr (.inr (fun _ => none)))))), (mo, .inr (13, [.int 1, .ref (w 0), .int 0, .ref (w 1), .int 0, .int 0, .ref (w 2), .int 0, .ref (w 3), .ref (w 4), .int 0]))] := hD
          have e_r15 : r15 = 1 := hw_r15.trans (by decide)
          subst e_r15
          refine lv_if_eq (tgt := 85) hx hb dX12_addShape_80 (by decide) (fun c_80 => absurd c_80 (by decide)) (fun c_80 => ?_)
          refine lv_iconst (v := 0) hx hb dX12_addShape_83 (by decide) ?_
          refine W.widen (k := 1) (n := 5) (Nat.le_of_ble_eq_true rfl) (Nat.le_of_ble_eq_true rfl) ?_
          exact W.iret (v := 0) hx hb hr (fun t ht hW => ⟨⟨0, [.int 1, .ref (w 0), .int 0, .ref (w 1), .int 0, .int 0, .ref (w 2), .int 0, .ref (w 3), .ref (w 4), .int 0], rfl, Or.inr ⟨by omega, rfl⟩, ⟨by rw [ht]; exact hP.sub [7] rfl, hD.sub [7] (by decide) rfl⟩⟩, hS.F ht⟩) hS.2.2 dX12_addShape_84
        · have f_31 := bi_n hw_r13 c_31
          refine lv_iload hx hb dX12_addShape_34 (lv_at hl 5 rfl) ?_
          refine lv_iload hx hb dX12_addShape_36 (lv_at hl 4 rfl) ?_
          refine lv_bipush (v := 9) hx hb dX12_addShape_38 (by decide) ?_
          refine pz_i (va_runS (As := [.int z, .int y, .int 9]) (rest := []) ⟨hx, hb, hml, hown, hts⟩ (k_X12_in l D k s.heap z y 9) (va_cwS 3 hts gX12_addShape_X12_in rfl rfl rfl (by decide +kernel) ⟨Nat.le_of_ble_eq_true rfl, Nat.le_of_ble_eq_true rfl⟩) ⟨pPc_fb, pPc_go hC⟩ rfl rfl hl.1 rfl (lv_room (Nat.le_of_ble_eq_true rfl)) dX12_addShape_40 ⟨Nat.le_of_ble_eq_true rfl, Nat.le_of_ble_eq_true rfl⟩) hS (fun r17 locs hw_r17 hS => ?_)
          refine lv_if_eq (tgt := 50) hx hb dX12_addShape_43 (by decide) (fun c_43 => ?_) (fun c_43 => ?_)
          · have f_43 := bi_z hw_r17 c_43
            refine lv_iconst (v := 0) hx hb dX12_addShape_50 (by decide) ?_
            refine lv_istore (lv' := [(6, .int 0), (0, .ref mo), (1, .int g), (2, .int w1), (3, .int x), (4, .int y), (5, .int z)]) hx hb dX12_addShape_51 hl (by decide) rfl (fun ls hl => ?_)
            refine lv_aload_n hx hb dX12_addShape_53 rfl (lv_at hl 1 rfl) ?_
            refine lv_iload hx hb dX12_addShape_54 (lv_at hl 0 rfl) ?_
            refine lv_if_ne (tgt := 63) hx hb dX12_addShape_56 (by decide) (fun c_56 => absurd c_56 (by decide)) (fun c_56 => ?_)
            refine lv_iconst (v := 1) hx hb dX12_addShape_59 (by decide) ?_
            refine lv_goto (tgt := 77) hx hb dX12_addShape_60 (by decide) ?_
            have hPc := hP.sub (ws' := [(mo, .inr (13, [.int 0, .ref (w 0), .int 0, .ref (w 1), .int 0, .int 0, .ref (w 2), .int 0, .ref (w 3), .ref (w 4), .int 0]))]) [0] rfl
            have hDc := hD.sub (ws' := [(mo, .inr (13, [.int 0, .ref (w 0), .int 0, .ref (w 1), .int 0, .int 0, .ref (w 2), .int 0, .ref (w 3), .ref (w 4), .int 0]))]) [0] (by decide) rfl
            have hFc := va_free (wc := [(mo, .inr (13, [.int 0, .ref (w 0), .int 0, .ref (w 1), .int 0, .int 0, .ref (w 2), .int 0, .ref (w 3), .ref (w 4), .int 0]))]) hD hS hA [0] rfl
            refine va_calli (va_runV (As := [.int 1]) (rest := []) ⟨hx, hb, hml, hown, hts⟩ (k_X12_fails l D k e0 s.heap.size mo w 0 1) (cwV 1 hts gX12_addShape_X12_fails rfl rfl rfl (by decide +kernel) ⟨Nat.le_of_ble_eq_true rfl, Nat.le_of_ble_eq_true rfl⟩) ⟨mPc_fb, va_recv hC.1 hPc (ci := 13) (q0 := 0) rfl rfl, mPc_go hC hHf hS hPc hDc hFc⟩ rfl rfl hl.1 rfl (lv_room (Nat.le_of_ble_eq_true rfl)) dX12_addShape_77 ⟨Nat.le_of_ble_eq_true rfl, Nat.le_of_ble_eq_true rfl⟩) hS (fun q9 _ h9 => hFc q9 h9) hFc (fun r19 u18 t H locs ht hvm hw_r19 hB hz1 hk1 hS => ?_)
            obtain ⟨hP1, hD1⟩ := hB
            rw [ht] at hP1
            obtain ⟨hP, hD⟩ := va_join (wr := [((w 0), .inl (k 5, 3, .inr (.inr (.inr (.inr (fun i => some (w (5 + i)))))))), ((w 5), .inl (k 0, 768, .inl (fun _ => 0))), ((w 6), .inl (k 0, 768, .inl (fun _ => 0))), ((w 7), .inl (k 0, 768, .inl (fun _ => 0))), ((w 1), .inl (k 6, 8, .inr (.inr (.inr (.inr (fun _ => none)))))), ((w 2), .inl (k 6, 20, .inr (.inr (.inr (.inr (fun _ => none)))))), ((w 4), .inl (k 6, 6, .inr (.inr (.inr (.inr (fun _ => none))))))]) (w1 := [(mo, .inr (13, [.int 1, .ref (w 0), .int 0, .ref (w 1), .int 0, .int 0, .ref (w 2), .int 0, .ref (w 3), .ref (w 4), .int 0]))]) hP hD [0] [1, 2, 3, 4, 5, 6, 7] rfl rfl (by decide) (by decide) hk1 hFc hP1 hD1
            have hP : va_P D vwCl [((w 0), .inl (k 5, 3, .inr (.inr (.inr (.inr (fun i => some (w (5 + i)))))))), ((w 5), .inl (k 0, 768, .inl (fun _ => 0))), ((w 6), .inl (k 0, 768, .inl (fun _ => 0))), ((w 7), .inl (k 0, 768, .inl (fun _ => 0))), ((w 1), .inl (k 6, 8, .inr (.inr (.inr (.inr (fun _ => none)))))), ((w 2), .inl (k 6, 20, .inr (.inr (.inr (.inr (fun _ => none)))))), ((w 4), .inl (k 6, 6, .inr (.inr (.inr (.inr (fun _ => none)))))), (mo, .inr (13, [.int 1, .ref (w 0), .int 0, .ref (w 1), .int 0, .int 0, .ref (w 2), .int 0, .ref (w 3), .ref (w 4), .int 0]))] H := hP
            have hD : va_D A [((w 0), .inl (k 5, 3, .inr (.inr (.inr (.inr (fun i => some (w (5 + i)))))))), ((w 5), .inl (k 0, 768, .inl (fun _ => 0))), ((w 6), .inl (k 0, 768, .inl (fun _ => 0))), ((w 7), .inl (k 0, 768, .inl (fun _ => 0))), ((w 1), .inl (k 6, 8, .inr (.inr (.inr (.inr (fun _ => none)))))), ((w 2), .inl (k 6, 20, .inr (.inr (.inr (.inr (fun _ => none)))))), ((w 4), .inl (k 6, 6, .inr (.inr (.inr (.inr (fun _ => none)))))), (mo, .inr (13, [.int 1, .ref (w 0), .int 0, .ref (w 1), .int 0, .int 0, .ref (w 2), .int 0, .ref (w 3), .ref (w 4), .int 0]))] := hD
            have e_r19 : r19 = 1 := hw_r19.trans (by decide)
            subst e_r19
            refine lv_if_eq (tgt := 85) hx hb dX12_addShape_80 (by decide) (fun c_80 => absurd c_80 (by decide)) (fun c_80 => ?_)
            refine lv_iconst (v := 0) hx hb dX12_addShape_83 (by decide) ?_
            refine W.widen (k := 1) (n := 5) (Nat.le_of_ble_eq_true rfl) (Nat.le_of_ble_eq_true rfl) ?_
            exact W.iret (v := 0) hx hb hr (fun t ht hW => ⟨⟨0, [.int 1, .ref (w 0), .int 0, .ref (w 1), .int 0, .int 0, .ref (w 2), .int 0, .ref (w 3), .ref (w 4), .int 0], rfl, Or.inr ⟨by omega, rfl⟩, ⟨by rw [ht]; exact hP.sub [7] rfl, hD.sub [7] (by decide) rfl⟩⟩, hS.F ht⟩) hS.2.2 dX12_addShape_84
          · have f_43 := bi_n hw_r17 c_43
            refine lv_iconst (v := 1) hx hb dX12_addShape_46 (by decide) ?_
            refine lv_goto (tgt := 51) hx hb dX12_addShape_47 (by decide) ?_
            refine lv_istore (lv' := [(6, .int 1), (0, .ref mo), (1, .int g), (2, .int w1), (3, .int x), (4, .int y), (5, .int z)]) hx hb dX12_addShape_51 hl (by decide) rfl (fun ls hl => ?_)
            refine lv_aload_n hx hb dX12_addShape_53 rfl (lv_at hl 1 rfl) ?_
            refine lv_iload hx hb dX12_addShape_54 (lv_at hl 0 rfl) ?_
            refine lv_if_ne (tgt := 63) hx hb dX12_addShape_56 (by decide) (fun c_56 => ?_) (fun c_56 => absurd c_56 (by decide))
            refine lv_aload_n hx hb dX12_addShape_63 rfl (lv_at hl 1 rfl) ?_
            refine va_get (D := D) (ci := 13) (v := .int 0) (C := RX12) (T := TX12) (N := 11) hx hb hts (by decide +kernel) hown hC.1 hP 0 rfl rfl 10 (by decide) (hts (.fieldLink RX12 194 "TriplegarthModel" "shapeMany" "I") (by decide +kernel)) (fun _ h9 => h9) rfl dX12_addShape_64 ?_
            refine lv_bipush (v := 6) hx hb dX12_addShape_67 (by decide) ?_
            refine lv_icmp_ne (tgt := 76) hx hb dX12_addShape_69 (by decide) (fun c_69 => ?_) (fun c_69 => absurd c_69 (by decide))
            refine lv_iconst (v := 0) hx hb dX12_addShape_76 (by decide) ?_
            have hPc := hP.sub (ws' := [(mo, .inr (13, [.int 0, .ref (w 0), .int 0, .ref (w 1), .int 0, .int 0, .ref (w 2), .int 0, .ref (w 3), .ref (w 4), .int 0]))]) [0] rfl
            have hDc := hD.sub (ws' := [(mo, .inr (13, [.int 0, .ref (w 0), .int 0, .ref (w 1), .int 0, .int 0, .ref (w 2), .int 0, .ref (w 3), .ref (w 4), .int 0]))]) [0] (by decide) rfl
            have hFc := va_free (wc := [(mo, .inr (13, [.int 0, .ref (w 0), .int 0, .ref (w 1), .int 0, .int 0, .ref (w 2), .int 0, .ref (w 3), .ref (w 4), .int 0]))]) hD hS hA [0] rfl
            refine va_calli (va_runV (As := [.int 0]) (rest := []) ⟨hx, hb, hml, hown, hts⟩ (k_X12_fails l D k e0 s.heap.size mo w 0 0) (cwV 1 hts gX12_addShape_X12_fails rfl rfl rfl (by decide +kernel) ⟨Nat.le_of_ble_eq_true rfl, Nat.le_of_ble_eq_true rfl⟩) ⟨mPc_fb, va_recv hC.1 hPc (ci := 13) (q0 := 0) rfl rfl, mPc_go hC hHf hS hPc hDc hFc⟩ rfl rfl hl.1 rfl (lv_room (Nat.le_of_ble_eq_true rfl)) dX12_addShape_77 ⟨Nat.le_of_ble_eq_true rfl, Nat.le_of_ble_eq_true rfl⟩) hS (fun q9 _ h9 => hFc q9 h9) hFc (fun r22 u21 t H locs ht hvm hw_r22 hB hz1 hk1 hS => ?_)
            obtain ⟨hP1, hD1⟩ := hB
            rw [ht] at hP1
            obtain ⟨hP, hD⟩ := va_join (wr := [((w 0), .inl (k 5, 3, .inr (.inr (.inr (.inr (fun i => some (w (5 + i)))))))), ((w 5), .inl (k 0, 768, .inl (fun _ => 0))), ((w 6), .inl (k 0, 768, .inl (fun _ => 0))), ((w 7), .inl (k 0, 768, .inl (fun _ => 0))), ((w 1), .inl (k 6, 8, .inr (.inr (.inr (.inr (fun _ => none)))))), ((w 2), .inl (k 6, 20, .inr (.inr (.inr (.inr (fun _ => none)))))), ((w 4), .inl (k 6, 6, .inr (.inr (.inr (.inr (fun _ => none))))))]) (w1 := [(mo, .inr (13, [.int 0, .ref (w 0), .int 0, .ref (w 1), .int 0, .int 0, .ref (w 2), .int 0, .ref (w 3), .ref (w 4), .int 0]))]) hP hD [0] [1, 2, 3, 4, 5, 6, 7] rfl rfl (by decide) (by decide) hk1 hFc hP1 hD1
            have hP : va_P D vwCl [((w 0), .inl (k 5, 3, .inr (.inr (.inr (.inr (fun i => some (w (5 + i)))))))), ((w 5), .inl (k 0, 768, .inl (fun _ => 0))), ((w 6), .inl (k 0, 768, .inl (fun _ => 0))), ((w 7), .inl (k 0, 768, .inl (fun _ => 0))), ((w 1), .inl (k 6, 8, .inr (.inr (.inr (.inr (fun _ => none)))))), ((w 2), .inl (k 6, 20, .inr (.inr (.inr (.inr (fun _ => none)))))), ((w 4), .inl (k 6, 6, .inr (.inr (.inr (.inr (fun _ => none)))))), (mo, .inr (13, [.int 0, .ref (w 0), .int 0, .ref (w 1), .int 0, .int 0, .ref (w 2), .int 0, .ref (w 3), .ref (w 4), .int 0]))] H := hP
            have hD : va_D A [((w 0), .inl (k 5, 3, .inr (.inr (.inr (.inr (fun i => some (w (5 + i)))))))), ((w 5), .inl (k 0, 768, .inl (fun _ => 0))), ((w 6), .inl (k 0, 768, .inl (fun _ => 0))), ((w 7), .inl (k 0, 768, .inl (fun _ => 0))), ((w 1), .inl (k 6, 8, .inr (.inr (.inr (.inr (fun _ => none)))))), ((w 2), .inl (k 6, 20, .inr (.inr (.inr (.inr (fun _ => none)))))), ((w 4), .inl (k 6, 6, .inr (.inr (.inr (.inr (fun _ => none)))))), (mo, .inr (13, [.int 0, .ref (w 0), .int 0, .ref (w 1), .int 0, .int 0, .ref (w 2), .int 0, .ref (w 3), .ref (w 4), .int 0]))] := hD
            have e_r22 : r22 = 0 := hw_r22.trans (by decide)
            subst e_r22
            refine lv_if_eq (tgt := 85) hx hb dX12_addShape_80 (by decide) (fun c_80 => ?_) (fun c_80 => absurd (by decide) c_80)
            refine lv_aload_n hx hb dX12_addShape_85 rfl (lv_at hl 1 rfl) ?_
            refine va_get (D := D) (ci := 13) (v := .ref (w 4)) (C := RX12) (T := TX12) (N := 11) hx hb hts (by decide +kernel) hown hC.1 hP 7 rfl rfl 9 (by decide) (hts (.fieldLink RX12 29 "TriplegarthModel" "shapes" "[[I") (by decide +kernel)) (fun _ h9 => h9) rfl dX12_addShape_86 ?_
            refine lv_aload_n hx hb dX12_addShape_89 rfl (lv_at hl 1 rfl) ?_
            refine va_get (D := D) (ci := 13) (v := .int 0) (C := RX12) (T := TX12) (N := 11) hx hb hts (by decide +kernel) hown hC.1 hP 7 rfl rfl 10 (by decide) (hts (.fieldLink RX12 194 "TriplegarthModel" "shapeMany" "I") (by decide +kernel)) (fun _ h9 => h9) rfl dX12_addShape_90 ?_
            refine lv_iconst (v := 5) hx hb dX12_addShape_93 (by decide) ?_
            refine w_newa (atype := .int) hx hb (hts (.arrayClass .int) (by decide +kernel)) (ty := .int) rfl 2 rfl hC.1 hP hD hS hA (a0 := (5, .inl (fun _ => 0))) (N' := 5) (fun _ => rfl) (by decide) (by decide) (Nat.le_of_ble_eq_true rfl) (Nat.le_of_ble_eq_true rfl) (Nat.le_of_ble_eq_true rfl) dX12_addShape_94 (fun q94 H hP hD hS => ?_)
            have hP : va_P D vwCl [((w 0), .inl (k 5, 3, .inr (.inr (.inr (.inr (fun i => some (w (5 + i)))))))), ((w 5), .inl (k 0, 768, .inl (fun _ => 0))), ((w 6), .inl (k 0, 768, .inl (fun _ => 0))), ((w 7), .inl (k 0, 768, .inl (fun _ => 0))), ((w 1), .inl (k 6, 8, .inr (.inr (.inr (.inr (fun _ => none)))))), ((w 2), .inl (k 6, 20, .inr (.inr (.inr (.inr (fun _ => none)))))), ((w 4), .inl (k 6, 6, .inr (.inr (.inr (.inr (fun _ => none)))))), (mo, .inr (13, [.int 0, .ref (w 0), .int 0, .ref (w 1), .int 0, .int 0, .ref (w 2), .int 0, .ref (w 3), .ref (w 4), .int 0])), (q94, .inl (k 2, 5, .inl (fun _ => 0)))] H := hP
            have hD : va_D A [((w 0), .inl (k 5, 3, .inr (.inr (.inr (.inr (fun i => some (w (5 + i)))))))), ((w 5), .inl (k 0, 768, .inl (fun _ => 0))), ((w 6), .inl (k 0, 768, .inl (fun _ => 0))), ((w 7), .inl (k 0, 768, .inl (fun _ => 0))), ((w 1), .inl (k 6, 8, .inr (.inr (.inr (.inr (fun _ => none)))))), ((w 2), .inl (k 6, 20, .inr (.inr (.inr (.inr (fun _ => none)))))), ((w 4), .inl (k 6, 6, .inr (.inr (.inr (.inr (fun _ => none)))))), (mo, .inr (13, [.int 0, .ref (w 0), .int 0, .ref (w 1), .int 0, .int 0, .ref (w 2), .int 0, .ref (w 3), .ref (w 4), .int 0])), (q94, .inl (k 2, 5, .inl (fun _ => 0)))] := hD
            refine lv_dup hx hb dX12_addShape_96 rfl ?_
            refine lv_iconst (v := 0) hx hb dX12_addShape_97 (by decide) ?_
            refine lv_iload_n hx hb dX12_addShape_98 rfl (lv_at hl 2 rfl) ?_
            refine va_iast hx hb hC.1 hP hD hS 8 2 rfl rfl (vp_in_nI (n := 0) (N := 5) (by decide) (by decide)) dX12_addShape_99 (fun H locs hP hD hS => ?_)
            have hP : va_P D vwCl [((w 0), .inl (k 5, 3, .inr (.inr (.inr (.inr (fun i => some (w (5 + i)))))))), ((w 5), .inl (k 0, 768, .inl (fun _ => 0))), ((w 6), .inl (k 0, 768, .inl (fun _ => 0))), ((w 7), .inl (k 0, 768, .inl (fun _ => 0))), ((w 1), .inl (k 6, 8, .inr (.inr (.inr (.inr (fun _ => none)))))), ((w 2), .inl (k 6, 20, .inr (.inr (.inr (.inr (fun _ => none)))))), ((w 4), .inl (k 6, 6, .inr (.inr (.inr (.inr (fun _ => none)))))), (mo, .inr (13, [.int 0, .ref (w 0), .int 0, .ref (w 1), .int 0, .int 0, .ref (w 2), .int 0, .ref (w 3), .ref (w 4), .int 0])), (q94, .inl (k 2, 5, .inl (upd (fun _ => 0) (0 : Int32).toNatClampNeg g)))] H := hP
            have hD : va_D A [((w 0), .inl (k 5, 3, .inr (.inr (.inr (.inr (fun i => some (w (5 + i)))))))), ((w 5), .inl (k 0, 768, .inl (fun _ => 0))), ((w 6), .inl (k 0, 768, .inl (fun _ => 0))), ((w 7), .inl (k 0, 768, .inl (fun _ => 0))), ((w 1), .inl (k 6, 8, .inr (.inr (.inr (.inr (fun _ => none)))))), ((w 2), .inl (k 6, 20, .inr (.inr (.inr (.inr (fun _ => none)))))), ((w 4), .inl (k 6, 6, .inr (.inr (.inr (.inr (fun _ => none)))))), (mo, .inr (13, [.int 0, .ref (w 0), .int 0, .ref (w 1), .int 0, .int 0, .ref (w 2), .int 0, .ref (w 3), .ref (w 4), .int 0])), (q94, .inl (k 2, 5, .inl (upd (fun _ => 0) (0 : Int32).toNatClampNeg g)))] := hD
            refine lv_dup hx hb dX12_addShape_100 rfl ?_
            refine lv_iconst (v := 1) hx hb dX12_addShape_101 (by decide) ?_
            refine lv_iload_n hx hb dX12_addShape_102 rfl (lv_at hl 3 rfl) ?_
            refine va_iast hx hb hC.1 hP hD hS 8 2 rfl rfl (vp_in_nI (n := 1) (N := 5) (by decide) (by decide)) dX12_addShape_103 (fun H locs hP hD hS => ?_)
            have hP : va_P D vwCl [((w 0), .inl (k 5, 3, .inr (.inr (.inr (.inr (fun i => some (w (5 + i)))))))), ((w 5), .inl (k 0, 768, .inl (fun _ => 0))), ((w 6), .inl (k 0, 768, .inl (fun _ => 0))), ((w 7), .inl (k 0, 768, .inl (fun _ => 0))), ((w 1), .inl (k 6, 8, .inr (.inr (.inr (.inr (fun _ => none)))))), ((w 2), .inl (k 6, 20, .inr (.inr (.inr (.inr (fun _ => none)))))), ((w 4), .inl (k 6, 6, .inr (.inr (.inr (.inr (fun _ => none)))))), (mo, .inr (13, [.int 0, .ref (w 0), .int 0, .ref (w 1), .int 0, .int 0, .ref (w 2), .int 0, .ref (w 3), .ref (w 4), .int 0])), (q94, .inl (k 2, 5, .inl (upd (upd (fun _ => 0) (0 : Int32).toNatClampNeg g) (1 : Int32).toNatClampNeg w1)))] H := hP
            have hD : va_D A [((w 0), .inl (k 5, 3, .inr (.inr (.inr (.inr (fun i => some (w (5 + i)))))))), ((w 5), .inl (k 0, 768, .inl (fun _ => 0))), ((w 6), .inl (k 0, 768, .inl (fun _ => 0))), ((w 7), .inl (k 0, 768, .inl (fun _ => 0))), ((w 1), .inl (k 6, 8, .inr (.inr (.inr (.inr (fun _ => none)))))), ((w 2), .inl (k 6, 20, .inr (.inr (.inr (.inr (fun _ => none)))))), ((w 4), .inl (k 6, 6, .inr (.inr (.inr (.inr (fun _ => none)))))), (mo, .inr (13, [.int 0, .ref (w 0), .int 0, .ref (w 1), .int 0, .int 0, .ref (w 2), .int 0, .ref (w 3), .ref (w 4), .int 0])), (q94, .inl (k 2, 5, .inl (upd (upd (fun _ => 0) (0 : Int32).toNatClampNeg g) (1 : Int32).toNatClampNeg w1)))] := hD
            refine lv_dup hx hb dX12_addShape_104 rfl ?_
            refine lv_iconst (v := 2) hx hb dX12_addShape_105 (by decide) ?_
            refine lv_iload_n hx hb dX12_addShape_106 rfl (lv_at hl 4 rfl) ?_
            refine va_iast hx hb hC.1 hP hD hS 8 2 rfl rfl (vp_in_nI (n := 2) (N := 5) (by decide) (by decide)) dX12_addShape_107 (fun H locs hP hD hS => ?_)
            have hP : va_P D vwCl [((w 0), .inl (k 5, 3, .inr (.inr (.inr (.inr (fun i => some (w (5 + i)))))))), ((w 5), .inl (k 0, 768, .inl (fun _ => 0))), ((w 6), .inl (k 0, 768, .inl (fun _ => 0))), ((w 7), .inl (k 0, 768, .inl (fun _ => 0))), ((w 1), .inl (k 6, 8, .inr (.inr (.inr (.inr (fun _ => none)))))), ((w 2), .inl (k 6, 20, .inr (.inr (.inr (.inr (fun _ => none)))))), ((w 4), .inl (k 6, 6, .inr (.inr (.inr (.inr (fun _ => none)))))), (mo, .inr (13, [.int 0, .ref (w 0), .int 0, .ref (w 1), .int 0, .int 0, .ref (w 2), .int 0, .ref (w 3), .ref (w 4), .int 0])), (q94, .inl (k 2, 5, .inl (upd (upd (upd (fun _ => 0) (0 : Int32).toNatClampNeg g) (1 : Int32).toNatClampNeg w1) (2 : Int32).toNatClampNeg x)))] H := hP
            have hD : va_D A [((w 0), .inl (k 5, 3, .inr (.inr (.inr (.inr (fun i => some (w (5 + i)))))))), ((w 5), .inl (k 0, 768, .inl (fun _ => 0))), ((w 6), .inl (k 0, 768, .inl (fun _ => 0))), ((w 7), .inl (k 0, 768, .inl (fun _ => 0))), ((w 1), .inl (k 6, 8, .inr (.inr (.inr (.inr (fun _ => none)))))), ((w 2), .inl (k 6, 20, .inr (.inr (.inr (.inr (fun _ => none)))))), ((w 4), .inl (k 6, 6, .inr (.inr (.inr (.inr (fun _ => none)))))), (mo, .inr (13, [.int 0, .ref (w 0), .int 0, .ref (w 1), .int 0, .int 0, .ref (w 2), .int 0, .ref (w 3), .ref (w 4), .int 0])), (q94, .inl (k 2, 5, .inl (upd (upd (upd (fun _ => 0) (0 : Int32).toNatClampNeg g) (1 : Int32).toNatClampNeg w1) (2 : Int32).toNatClampNeg x)))] := hD
            refine lv_dup hx hb dX12_addShape_108 rfl ?_
            refine lv_iconst (v := 3) hx hb dX12_addShape_109 (by decide) ?_
            refine lv_iload hx hb dX12_addShape_110 (lv_at hl 5 rfl) ?_
            refine va_iast hx hb hC.1 hP hD hS 8 2 rfl rfl (vp_in_nI (n := 3) (N := 5) (by decide) (by decide)) dX12_addShape_112 (fun H locs hP hD hS => ?_)
            have hP : va_P D vwCl [((w 0), .inl (k 5, 3, .inr (.inr (.inr (.inr (fun i => some (w (5 + i)))))))), ((w 5), .inl (k 0, 768, .inl (fun _ => 0))), ((w 6), .inl (k 0, 768, .inl (fun _ => 0))), ((w 7), .inl (k 0, 768, .inl (fun _ => 0))), ((w 1), .inl (k 6, 8, .inr (.inr (.inr (.inr (fun _ => none)))))), ((w 2), .inl (k 6, 20, .inr (.inr (.inr (.inr (fun _ => none)))))), ((w 4), .inl (k 6, 6, .inr (.inr (.inr (.inr (fun _ => none)))))), (mo, .inr (13, [.int 0, .ref (w 0), .int 0, .ref (w 1), .int 0, .int 0, .ref (w 2), .int 0, .ref (w 3), .ref (w 4), .int 0])), (q94, .inl (k 2, 5, .inl (upd (upd (upd (upd (fun _ => 0) (0 : Int32).toNatClampNeg g) (1 : Int32).toNatClampNeg w1) (2 : Int32).toNatClampNeg x) (3 : Int32).toNatClampNeg y)))] H := hP
            have hD : va_D A [((w 0), .inl (k 5, 3, .inr (.inr (.inr (.inr (fun i => some (w (5 + i)))))))), ((w 5), .inl (k 0, 768, .inl (fun _ => 0))), ((w 6), .inl (k 0, 768, .inl (fun _ => 0))), ((w 7), .inl (k 0, 768, .inl (fun _ => 0))), ((w 1), .inl (k 6, 8, .inr (.inr (.inr (.inr (fun _ => none)))))), ((w 2), .inl (k 6, 20, .inr (.inr (.inr (.inr (fun _ => none)))))), ((w 4), .inl (k 6, 6, .inr (.inr (.inr (.inr (fun _ => none)))))), (mo, .inr (13, [.int 0, .ref (w 0), .int 0, .ref (w 1), .int 0, .int 0, .ref (w 2), .int 0, .ref (w 3), .ref (w 4), .int 0])), (q94, .inl (k 2, 5, .inl (upd (upd (upd (upd (fun _ => 0) (0 : Int32).toNatClampNeg g) (1 : Int32).toNatClampNeg w1) (2 : Int32).toNatClampNeg x) (3 : Int32).toNatClampNeg y)))] := hD
            refine lv_dup hx hb dX12_addShape_113 rfl ?_
            refine lv_iconst (v := 4) hx hb dX12_addShape_114 (by decide) ?_
            refine lv_iload hx hb dX12_addShape_115 (lv_at hl 6 rfl) ?_
            refine va_iast hx hb hC.1 hP hD hS 8 2 rfl rfl (vp_in_nI (n := 4) (N := 5) (by decide) (by decide)) dX12_addShape_117 (fun H locs hP hD hS => ?_)
            have hP : va_P D vwCl [((w 0), .inl (k 5, 3, .inr (.inr (.inr (.inr (fun i => some (w (5 + i)))))))), ((w 5), .inl (k 0, 768, .inl (fun _ => 0))), ((w 6), .inl (k 0, 768, .inl (fun _ => 0))), ((w 7), .inl (k 0, 768, .inl (fun _ => 0))), ((w 1), .inl (k 6, 8, .inr (.inr (.inr (.inr (fun _ => none)))))), ((w 2), .inl (k 6, 20, .inr (.inr (.inr (.inr (fun _ => none)))))), ((w 4), .inl (k 6, 6, .inr (.inr (.inr (.inr (fun _ => none)))))), (mo, .inr (13, [.int 0, .ref (w 0), .int 0, .ref (w 1), .int 0, .int 0, .ref (w 2), .int 0, .ref (w 3), .ref (w 4), .int 0])), (q94, .inl (k 2, 5, .inl (upd (upd (upd (upd (upd (fun _ => 0) (0 : Int32).toNatClampNeg g) (1 : Int32).toNatClampNeg w1) (2 : Int32).toNatClampNeg x) (3 : Int32).toNatClampNeg y) (4 : Int32).toNatClampNeg z)))] H := hP
            have hD : va_D A [((w 0), .inl (k 5, 3, .inr (.inr (.inr (.inr (fun i => some (w (5 + i)))))))), ((w 5), .inl (k 0, 768, .inl (fun _ => 0))), ((w 6), .inl (k 0, 768, .inl (fun _ => 0))), ((w 7), .inl (k 0, 768, .inl (fun _ => 0))), ((w 1), .inl (k 6, 8, .inr (.inr (.inr (.inr (fun _ => none)))))), ((w 2), .inl (k 6, 20, .inr (.inr (.inr (.inr (fun _ => none)))))), ((w 4), .inl (k 6, 6, .inr (.inr (.inr (.inr (fun _ => none)))))), (mo, .inr (13, [.int 0, .ref (w 0), .int 0, .ref (w 1), .int 0, .int 0, .ref (w 2), .int 0, .ref (w 3), .ref (w 4), .int 0])), (q94, .inl (k 2, 5, .inl (upd (upd (upd (upd (upd (fun _ => 0) (0 : Int32).toNatClampNeg g) (1 : Int32).toNatClampNeg w1) (2 : Int32).toNatClampNeg x) (3 : Int32).toNatClampNeg y) (4 : Int32).toNatClampNeg z)))] := hD
            refine w_astII hx hb hC.2.2.1.2.2.2.1 hC.1 hP hD hS 6 8 rfl rfl (vp_in_nI (n := 0) (N := 6) (by decide) (by decide)) dX12_addShape_118 (fun H locs hP hD hS => ?_)
            have hP : va_P D vwCl [((w 0), .inl (k 5, 3, .inr (.inr (.inr (.inr (fun i => some (w (5 + i)))))))), ((w 5), .inl (k 0, 768, .inl (fun _ => 0))), ((w 6), .inl (k 0, 768, .inl (fun _ => 0))), ((w 7), .inl (k 0, 768, .inl (fun _ => 0))), ((w 1), .inl (k 6, 8, .inr (.inr (.inr (.inr (fun _ => none)))))), ((w 2), .inl (k 6, 20, .inr (.inr (.inr (.inr (fun _ => none)))))), ((w 4), .inl (k 6, 6, .inr (.inr (.inr (.inr (va_up (fun _ => none) (0 : Int32).toNatClampNeg (some q94))))))), (mo, .inr (13, [.int 0, .ref (w 0), .int 0, .ref (w 1), .int 0, .int 0, .ref (w 2), .int 0, .ref (w 3), .ref (w 4), .int 0])), (q94, .inl (k 2, 5, .inl (upd (upd (upd (upd (upd (fun _ => 0) (0 : Int32).toNatClampNeg g) (1 : Int32).toNatClampNeg w1) (2 : Int32).toNatClampNeg x) (3 : Int32).toNatClampNeg y) (4 : Int32).toNatClampNeg z)))] H := hP
            have hD : va_D A [((w 0), .inl (k 5, 3, .inr (.inr (.inr (.inr (fun i => some (w (5 + i)))))))), ((w 5), .inl (k 0, 768, .inl (fun _ => 0))), ((w 6), .inl (k 0, 768, .inl (fun _ => 0))), ((w 7), .inl (k 0, 768, .inl (fun _ => 0))), ((w 1), .inl (k 6, 8, .inr (.inr (.inr (.inr (fun _ => none)))))), ((w 2), .inl (k 6, 20, .inr (.inr (.inr (.inr (fun _ => none)))))), ((w 4), .inl (k 6, 6, .inr (.inr (.inr (.inr (va_up (fun _ => none) (0 : Int32).toNatClampNeg (some q94))))))), (mo, .inr (13, [.int 0, .ref (w 0), .int 0, .ref (w 1), .int 0, .int 0, .ref (w 2), .int 0, .ref (w 3), .ref (w 4), .int 0])), (q94, .inl (k 2, 5, .inl (upd (upd (upd (upd (upd (fun _ => 0) (0 : Int32).toNatClampNeg g) (1 : Int32).toNatClampNeg w1) (2 : Int32).toNatClampNeg x) (3 : Int32).toNatClampNeg y) (4 : Int32).toNatClampNeg z)))] := hD
            refine lv_aload_n hx hb dX12_addShape_119 rfl (lv_at hl 1 rfl) ?_
            refine lv_dup hx hb dX12_addShape_120 rfl ?_
            refine va_get (D := D) (ci := 13) (v := .int 0) (C := RX12) (T := TX12) (N := 11) hx hb hts (by decide +kernel) hown hC.1 hP 7 rfl rfl 10 (by decide) (hts (.fieldLink RX12 194 "TriplegarthModel" "shapeMany" "I") (by decide +kernel)) (fun _ h9 => h9) rfl dX12_addShape_121 ?_
            refine lv_iconst (v := 1) hx hb dX12_addShape_124 (by decide) ?_
            refine lv_iadd hx hb dX12_addShape_125 ?_
            refine w_top (y := 1) (by decide) ?_
            refine va_put (D := D) (ci := 13) (v := .int 1) (ty := .int) (C := RX12) (T := TX12) (N := 11) hx hb hts (by decide +kernel) tyX12 tyX12_ok nmX12 hown hC.1 hP hD hS 7 rfl rfl 10 (by decide) (hts (.fieldLink RX12 194 "TriplegarthModel" "shapeMany" "I") (by decide +kernel)) (fun _ h9 => h9) rfl (by decide +kernel) rfl rfl (Nat.le_of_ble_eq_true rfl) dX12_addShape_126 (fun H locs hP hD hS => ?_)
            have hP : va_P D vwCl [((w 0), .inl (k 5, 3, .inr (.inr (.inr (.inr (fun i => some (w (5 + i)))))))), ((w 5), .inl (k 0, 768, .inl (fun _ => 0))), ((w 6), .inl (k 0, 768, .inl (fun _ => 0))), ((w 7), .inl (k 0, 768, .inl (fun _ => 0))), ((w 1), .inl (k 6, 8, .inr (.inr (.inr (.inr (fun _ => none)))))), ((w 2), .inl (k 6, 20, .inr (.inr (.inr (.inr (fun _ => none)))))), ((w 4), .inl (k 6, 6, .inr (.inr (.inr (.inr (va_up (fun _ => none) (0 : Int32).toNatClampNeg (some q94))))))), (mo, .inr (13, [.int 0, .ref (w 0), .int 0, .ref (w 1), .int 0, .int 0, .ref (w 2), .int 0, .ref (w 3), .ref (w 4), .int 1])), (q94, .inl (k 2, 5, .inl (upd (upd (upd (upd (upd (fun _ => 0) (0 : Int32).toNatClampNeg g) (1 : Int32).toNatClampNeg w1) (2 : Int32).toNatClampNeg x) (3 : Int32).toNatClampNeg y) (4 : Int32).toNatClampNeg z)))] H := hP
            have hD : va_D A [((w 0), .inl (k 5, 3, .inr (.inr (.inr (.inr (fun i => some (w (5 + i)))))))), ((w 5), .inl (k 0, 768, .inl (fun _ => 0))), ((w 6), .inl (k 0, 768, .inl (fun _ => 0))), ((w 7), .inl (k 0, 768, .inl (fun _ => 0))), ((w 1), .inl (k 6, 8, .inr (.inr (.inr (.inr (fun _ => none)))))), ((w 2), .inl (k 6, 20, .inr (.inr (.inr (.inr (fun _ => none)))))), ((w 4), .inl (k 6, 6, .inr (.inr (.inr (.inr (va_up (fun _ => none) (0 : Int32).toNatClampNeg (some q94))))))), (mo, .inr (13, [.int 0, .ref (w 0), .int 0, .ref (w 1), .int 0, .int 0, .ref (w 2), .int 0, .ref (w 3), .ref (w 4), .int 1])), (q94, .inl (k 2, 5, .inl (upd (upd (upd (upd (upd (fun _ => 0) (0 : Int32).toNatClampNeg g) (1 : Int32).toNatClampNeg w1) (2 : Int32).toNatClampNeg x) (3 : Int32).toNatClampNeg y) (4 : Int32).toNatClampNeg z)))] := hD
            refine lv_aload_n hx hb dX12_addShape_129 rfl (lv_at hl 1 rfl) ?_
            refine va_get (D := D) (ci := 13) (v := .int 1) (C := RX12) (T := TX12) (N := 11) hx hb hts (by decide +kernel) hown hC.1 hP 7 rfl rfl 10 (by decide) (hts (.fieldLink RX12 194 "TriplegarthModel" "shapeMany" "I") (by decide +kernel)) (fun _ h9 => h9) rfl dX12_addShape_130 ?_
            refine lv_iconst (v := 1) hx hb dX12_addShape_133 (by decide) ?_
            refine lv_isub hx hb dX12_addShape_134 ?_
            refine w_top (y := 0) (by decide) ?_
            exact W.iret (v := 0) hx hb hr (fun t ht hW => ⟨⟨0, [.int 0, .ref (w 0), .int 0, .ref (w 1), .int 0, .int 0, .ref (w 2), .int 0, .ref (w 3), .ref (w 4), .int 1], rfl, Or.inl ⟨by omega, rfl, rfl⟩, ⟨by rw [ht]; exact hP.sub [7] rfl, hD.sub [7] (by decide) rfl⟩⟩, hS.F ht⟩) hS.2.2 dX12_addShape_135

set_option maxHeartbeats 4000000 in
set_option maxRecDepth 100000 in
theorem k_X12_fault_m (l : Launch) (D : va_G) (k : Nat → ClassId) (h0 : Heap) (mo : Nat) (w : Nat → Nat) (hP : va_P D vwCl [(mo, .inr (13, [.int 0, .ref (w 0), .int 0, .ref (w 1), .int 0, .int 0, .ref (w 2), .int 0, .ref (w 3), .ref (w 4), .int 0]))] h0) : Met l yX12_fault wsX12_fault ({ frames := 0, cells := 0, slots := 0, locals := 0 }) (pPc D k [.ref mo, .int (-1)] h0) (va_Qi (fun r (_ : Unit) => r = 0) (fun _ t => t.heap = h0) (fun _ => False)) 0 0 (fun _ => False) := by
  refine Met.ofW (cc := cX12_fault) (maxL := 7) (ret := (some .int)) (by decide) rfl ?_
  intro p e s m args below meth c s₁ B hml hv
  obtain ⟨rfl, rfl, hC⟩ := hv
  have hx := B.exec
  have hb := B.bytes
  have hr := B.returns
  have hts := atoms_spec (ws := wsX12_fault) B.pre
  have hown : s.vm.findClass RX12 = some m.cls := findClass_of_methodNamed B.named
  have hlocks := B.notSynchronized
  have hS : va_S (fun _ => False) s.heap s.heap [] := va_S.rf
  refine w_entry (Nat.le_of_ble_eq_true rfl) (fun ls hl => ?_)
  have hl : lv_has ls 7 [(0, .ref mo), (1, .int (-1))] := hl
  refine lv_iconst (v := 0) hx hb dX12_fault_0 (by decide) ?_
  refine lv_istore_n (lv' := [(2, .int 0), (0, .ref mo), (1, .int (-1))]) hx hb dX12_fault_1 rfl hl (by decide) rfl (fun ls hl => ?_)
  refine lv_iconst (v := 0) hx hb dX12_fault_2 (by decide) ?_
  refine lv_istore_n (lv' := [(3, .int 0), (2, .int 0), (0, .ref mo), (1, .int (-1))]) hx hb dX12_fault_3 rfl hl (by decide) rfl (fun ls hl => ?_)
  refine lv_iload_n hx hb dX12_fault_4 rfl (lv_at hl 0 rfl) ?_
  refine lv_aload_n hx hb dX12_fault_5 rfl (lv_at hl 2 rfl) ?_
  refine va_get (D := D) (ci := 13) (v := .int 0) (C := RX12) (T := TX12) (N := 11) hx hb hts (by decide +kernel) hown hC.1 hP 0 rfl rfl 10 (by decide) (hts (.fieldLink RX12 194 "TriplegarthModel" "shapeMany" "I") (by decide +kernel)) (fun _ h9 => h9) rfl dX12_fault_6 ?_
  refine lv_icmp_ge (tgt := 123) hx hb dX12_fault_9 (by decide) (fun c_9 => ?_) (fun c_9 => absurd (by decide) c_9)
  refine lv_iload_n hx hb dX12_fault_123 rfl (lv_at hl 3 rfl) ?_
  refine lv_iconst (v := (-1)) hx hb dX12_fault_124 (by decide) ?_
  refine lv_icmp_ne (tgt := 132) hx hb dX12_fault_125 (by decide) (fun c_125 => absurd c_125 (by decide)) (fun c_125 => ?_)
  refine lv_iload_n hx hb dX12_fault_128 rfl (lv_at hl 1 rfl) ?_
  refine lv_goto (tgt := 133) hx hb dX12_fault_129 (by decide) ?_
  exact W.iret (v := 0) hx hb hr (fun t ht hW => ⟨⟨0, (), rfl, rfl, ht⟩, hS.F ht⟩) hS.2.2 dX12_fault_133

set_option maxHeartbeats 4000000 in
set_option maxRecDepth 100000 in
theorem k_X12_fault_p (l : Launch) (D : va_G) (k : Nat → ClassId) (h0 : Heap) (mo : Nat) (w : Nat → Nat) (x : Int32) (hP : va_P D vwCl [(mo, .inr (13, [.int 0, .ref (w 0), .int 0, .ref (w 1), .int 0, .int 0, .ref (w 2), .int 0, .ref (w 3), .ref (w 4), .int 0]))] h0) (hx1 : ¬ x = -1) : Met l yX12_fault wsX12_fault ({ frames := 0, cells := 0, slots := 0, locals := 0 }) (pPc D k [.ref mo, .int x] h0) (va_Qi (fun r (_ : Unit) => r = -1) (fun _ t => t.heap = h0) (fun _ => False)) 0 0 (fun _ => False) := by
  refine Met.ofW (cc := cX12_fault) (maxL := 7) (ret := (some .int)) (by decide) rfl ?_
  intro p e s m args below meth c s₁ B hml hv
  obtain ⟨rfl, rfl, hC⟩ := hv
  have hx := B.exec
  have hb := B.bytes
  have hr := B.returns
  have hts := atoms_spec (ws := wsX12_fault) B.pre
  have hown : s.vm.findClass RX12 = some m.cls := findClass_of_methodNamed B.named
  have hlocks := B.notSynchronized
  have hS : va_S (fun _ => False) s.heap s.heap [] := va_S.rf
  refine w_entry (Nat.le_of_ble_eq_true rfl) (fun ls hl => ?_)
  have hl : lv_has ls 7 [(0, .ref mo), (1, .int x)] := hl
  refine lv_iconst (v := 0) hx hb dX12_fault_0 (by decide) ?_
  refine lv_istore_n (lv' := [(2, .int 0), (0, .ref mo), (1, .int x)]) hx hb dX12_fault_1 rfl hl (by decide) rfl (fun ls hl => ?_)
  refine lv_iconst (v := 0) hx hb dX12_fault_2 (by decide) ?_
  refine lv_istore_n (lv' := [(3, .int 0), (2, .int 0), (0, .ref mo), (1, .int x)]) hx hb dX12_fault_3 rfl hl (by decide) rfl (fun ls hl => ?_)
  refine lv_iload_n hx hb dX12_fault_4 rfl (lv_at hl 0 rfl) ?_
  refine lv_aload_n hx hb dX12_fault_5 rfl (lv_at hl 2 rfl) ?_
  refine va_get (D := D) (ci := 13) (v := .int 0) (C := RX12) (T := TX12) (N := 11) hx hb hts (by decide +kernel) hown hC.1 hP 0 rfl rfl 10 (by decide) (hts (.fieldLink RX12 194 "TriplegarthModel" "shapeMany" "I") (by decide +kernel)) (fun _ h9 => h9) rfl dX12_fault_6 ?_
  refine lv_icmp_ge (tgt := 123) hx hb dX12_fault_9 (by decide) (fun c_9 => ?_) (fun c_9 => absurd (by decide) c_9)
  refine lv_iload_n hx hb dX12_fault_123 rfl (lv_at hl 3 rfl) ?_
  refine lv_iconst (v := (-1)) hx hb dX12_fault_124 (by decide) ?_
  refine lv_icmp_ne (tgt := 132) hx hb dX12_fault_125 (by decide) (fun c_125 => ?_) (fun c_125 => absurd c_125 (hx1))
  refine lv_iconst (v := (-1)) hx hb dX12_fault_132 (by decide) ?_
  exact W.iret (v := (-1)) hx hb hr (fun t ht hW => ⟨⟨(-1), (), rfl, rfl, ht⟩, hS.F ht⟩) hS.2.2 dX12_fault_133

set_option maxHeartbeats 4000000 in
set_option maxRecDepth 100000 in
theorem k_X12_faults (l : Launch) (D : va_G) (k : Nat → ClassId) (e0 : Nat) (sz : Nat) (mo : Nat) (w : Nat → Nat)  : Met l yX12_faults wsX12_faults ({ frames := 1, cells := 0, slots := 0, locals := 26 }) (mPc D k e0 sz [.ref mo] [(mo, .inr (13, [.int 0, .ref (w 0), .int 0, .ref (w 1), .int 0, .int 0, .ref (w 2), .int 0, .ref (w 3), .ref (w 4), .int 0])), ((w 0), .inl (k 5, 3, .inr (.inr (.inr (.inr (fun i => some (w (5 + i)))))))), ((w 5), .inl (k 0, 768, .inl (fun _ => 0))), ((w 6), .inl (k 0, 768, .inl (fun _ => 0))), ((w 7), .inl (k 0, 768, .inl (fun _ => 0))), ((w 1), .inl (k 6, 8, .inr (.inr (.inr (.inr (fun _ => none)))))), ((w 2), .inl (k 6, 20, .inr (.inr (.inr (.inr (fun _ => none)))))), ((w 4), .inl (k 6, 6, .inr (.inr (.inr (.inr (fun _ => none))))))]) (va_Qi (fun r (u : List Value) => u[0]? = some (.int 0) ∧ r = 0) (fun u t => va_P D vwCl [(mo, .inr (13, u))] t.heap ∧ va_D (va_A [(mo, .inr (13, [.int 0, .ref (w 0), .int 0, .ref (w 1), .int 0, .int 0, .ref (w 2), .int 0, .ref (w 3), .ref (w 4), .int 0])), ((w 0), .inl (k 5, 3, .inr (.inr (.inr (.inr (fun i => some (w (5 + i)))))))), ((w 5), .inl (k 0, 768, .inl (fun _ => 0))), ((w 6), .inl (k 0, 768, .inl (fun _ => 0))), ((w 7), .inl (k 0, 768, .inl (fun _ => 0))), ((w 1), .inl (k 6, 8, .inr (.inr (.inr (.inr (fun _ => none)))))), ((w 2), .inl (k 6, 20, .inr (.inr (.inr (.inr (fun _ => none)))))), ((w 4), .inl (k 6, 6, .inr (.inr (.inr (.inr (fun _ => none))))))] sz) [(mo, .inr (13, u))]) (va_A [(mo, .inr (13, [.int 0, .ref (w 0), .int 0, .ref (w 1), .int 0, .int 0, .ref (w 2), .int 0, .ref (w 3), .ref (w 4), .int 0])), ((w 0), .inl (k 5, 3, .inr (.inr (.inr (.inr (fun i => some (w (5 + i)))))))), ((w 5), .inl (k 0, 768, .inl (fun _ => 0))), ((w 6), .inl (k 0, 768, .inl (fun _ => 0))), ((w 7), .inl (k 0, 768, .inl (fun _ => 0))), ((w 1), .inl (k 6, 8, .inr (.inr (.inr (.inr (fun _ => none)))))), ((w 2), .inl (k 6, 20, .inr (.inr (.inr (.inr (fun _ => none)))))), ((w 4), .inl (k 6, 6, .inr (.inr (.inr (.inr (fun _ => none))))))] sz)) 0 0 (va_A [(mo, .inr (13, [.int 0, .ref (w 0), .int 0, .ref (w 1), .int 0, .int 0, .ref (w 2), .int 0, .ref (w 3), .ref (w 4), .int 0])), ((w 0), .inl (k 5, 3, .inr (.inr (.inr (.inr (fun i => some (w (5 + i)))))))), ((w 5), .inl (k 0, 768, .inl (fun _ => 0))), ((w 6), .inl (k 0, 768, .inl (fun _ => 0))), ((w 7), .inl (k 0, 768, .inl (fun _ => 0))), ((w 1), .inl (k 6, 8, .inr (.inr (.inr (.inr (fun _ => none)))))), ((w 2), .inl (k 6, 20, .inr (.inr (.inr (.inr (fun _ => none)))))), ((w 4), .inl (k 6, 6, .inr (.inr (.inr (.inr (fun _ => none))))))] sz) := by
  refine Met.ofW (cc := cX12_faults) (maxL := 1) (ret := (some .int)) (by decide) rfl ?_
  intro p e s m args below meth c s₁ B hml hv
  obtain ⟨rfl, rfl, hP, hC, hD0, hHf⟩ := hv
  have hx := B.exec
  have hb := B.bytes
  have hr := B.returns
  have hts := atoms_spec (ws := wsX12_faults) B.pre
  have hown : s.vm.findClass RX12 = some m.cls := findClass_of_methodNamed B.named
  have hlocks := B.notSynchronized
  have hD := hD0.self (sz := s.heap.size)
  generalize hAe : va_A [(mo, .inr (13, [.int 0, .ref (w 0), .int 0, .ref (w 1), .int 0, .int 0, .ref (w 2), .int 0, .ref (w 3), .ref (w 4), .int 0])), ((w 0), .inl (k 5, 3, .inr (.inr (.inr (.inr (fun i => some (w (5 + i)))))))), ((w 5), .inl (k 0, 768, .inl (fun _ => 0))), ((w 6), .inl (k 0, 768, .inl (fun _ => 0))), ((w 7), .inl (k 0, 768, .inl (fun _ => 0))), ((w 1), .inl (k 6, 8, .inr (.inr (.inr (.inr (fun _ => none)))))), ((w 2), .inl (k 6, 20, .inr (.inr (.inr (.inr (fun _ => none)))))), ((w 4), .inl (k 6, 6, .inr (.inr (.inr (.inr (fun _ => none))))))] s.heap.size = A at hD hHf ⊢
  have hA : ∀ q : Nat, s.heap.size ≤ q → A q := fun q h => by rw [← hAe]; exact Or.inr h
  have hS : va_S A s.heap s.heap [] := va_S.rf
  refine w_entry (Nat.le_of_ble_eq_true rfl) (fun ls hl => ?_)
  have hl : lv_has ls 1 [(0, .ref mo)] := hl
  refine lv_aload_n hx hb dX12_faults_0 rfl (lv_at hl 0 rfl) ?_
  refine lv_iconst (v := 0) hx hb dX12_faults_1 (by decide) ?_
  refine va_put (D := D) (ci := 13) (v := .int 0) (ty := .int) (C := RX12) (T := TX12) (N := 11) hx hb hts (by decide +kernel) tyX12 tyX12_ok nmX12 hown hC.1 hP hD hS 0 rfl rfl 0 (by decide) (hts (.fieldLink RX12 32 "TriplegarthModel" "thrown" "I") (by decide +kernel)) (fun _ h9 => h9) rfl (by decide +kernel) rfl rfl (Nat.le_of_ble_eq_true rfl) dX12_faults_2 (fun H locs hP hD hS => ?_)
  have hP : va_P D vwCl [(mo, .inr (13, [.int 0, .ref (w 0), .int 0, .ref (w 1), .int 0, .int 0, .ref (w 2), .int 0, .ref (w 3), .ref (w 4), .int 0])), ((w 0), .inl (k 5, 3, .inr (.inr (.inr (.inr (fun i => some (w (5 + i)))))))), ((w 5), .inl (k 0, 768, .inl (fun _ => 0))), ((w 6), .inl (k 0, 768, .inl (fun _ => 0))), ((w 7), .inl (k 0, 768, .inl (fun _ => 0))), ((w 1), .inl (k 6, 8, .inr (.inr (.inr (.inr (fun _ => none)))))), ((w 2), .inl (k 6, 20, .inr (.inr (.inr (.inr (fun _ => none)))))), ((w 4), .inl (k 6, 6, .inr (.inr (.inr (.inr (fun _ => none))))))] H := hP
  have hD : va_D A [(mo, .inr (13, [.int 0, .ref (w 0), .int 0, .ref (w 1), .int 0, .int 0, .ref (w 2), .int 0, .ref (w 3), .ref (w 4), .int 0])), ((w 0), .inl (k 5, 3, .inr (.inr (.inr (.inr (fun i => some (w (5 + i)))))))), ((w 5), .inl (k 0, 768, .inl (fun _ => 0))), ((w 6), .inl (k 0, 768, .inl (fun _ => 0))), ((w 7), .inl (k 0, 768, .inl (fun _ => 0))), ((w 1), .inl (k 6, 8, .inr (.inr (.inr (.inr (fun _ => none)))))), ((w 2), .inl (k 6, 20, .inr (.inr (.inr (.inr (fun _ => none)))))), ((w 4), .inl (k 6, 6, .inr (.inr (.inr (.inr (fun _ => none))))))] := hD
  refine lv_aload_n hx hb dX12_faults_5 rfl (lv_at hl 0 rfl) ?_
  refine lv_iconst (v := (-1)) hx hb dX12_faults_6 (by decide) ?_
  refine pz_i (va_runV (As := [.int (-1)]) (rest := []) ⟨hx, hb, hml, hown, hts⟩ (k_X12_fault_m l D k H mo w (hP.sub [0] rfl)) (cwV 1 hts gX12_faults_X12_fault rfl rfl rfl (by decide +kernel) ⟨Nat.le_of_ble_eq_true rfl, Nat.le_of_ble_eq_true rfl⟩) ⟨pPc_fb, va_recv hC.1 hP (ci := 13) (q0 := 0) rfl rfl, pPc_go hC⟩ rfl rfl hl.1 rfl (lv_room (Nat.le_of_ble_eq_true rfl)) dX12_faults_7 ⟨Nat.le_of_ble_eq_true rfl, Nat.le_of_ble_eq_true rfl⟩) hS (fun r1 locs hw_r1 hS => ?_)
  subst hw_r1
  exact W.iret (v := 0) hx hb hr (fun t ht hW => ⟨⟨0, [.int 0, .ref (w 0), .int 0, .ref (w 1), .int 0, .int 0, .ref (w 2), .int 0, .ref (w 3), .ref (w 4), .int 0], rfl, ⟨rfl, rfl⟩, ⟨by rw [ht]; exact hP.sub [0] rfl, hD.sub [0] (by decide) rfl⟩⟩, hS.F ht⟩) hS.2.2 dX12_faults_10

set_option maxHeartbeats 4000000 in
set_option maxRecDepth 100000 in
theorem k_X12_faultAt (l : Launch) (D : va_G) (k : Nat → ClassId) (e0 : Nat) (sz : Nat) (mo : Nat) (w : Nat → Nat) (x : Int32) : Met l yX12_faultAt wsX12_faultAt ({ frames := 1, cells := 0, slots := 0, locals := 26 }) (mPc D k e0 sz [.ref mo, .int x] [(mo, .inr (13, [.int 0, .ref (w 0), .int 0, .ref (w 1), .int 0, .int 0, .ref (w 2), .int 0, .ref (w 3), .ref (w 4), .int 0])), ((w 0), .inl (k 5, 3, .inr (.inr (.inr (.inr (fun i => some (w (5 + i)))))))), ((w 5), .inl (k 0, 768, .inl (fun _ => 0))), ((w 6), .inl (k 0, 768, .inl (fun _ => 0))), ((w 7), .inl (k 0, 768, .inl (fun _ => 0))), ((w 1), .inl (k 6, 8, .inr (.inr (.inr (.inr (fun _ => none)))))), ((w 2), .inl (k 6, 20, .inr (.inr (.inr (.inr (fun _ => none)))))), ((w 4), .inl (k 6, 6, .inr (.inr (.inr (.inr (fun _ => none))))))]) (va_Qi (fun r (u : List Value) => u[0]? = some (.int 1)) (fun u t => va_P D vwCl [(mo, .inr (13, u))] t.heap ∧ va_D (va_A [(mo, .inr (13, [.int 0, .ref (w 0), .int 0, .ref (w 1), .int 0, .int 0, .ref (w 2), .int 0, .ref (w 3), .ref (w 4), .int 0])), ((w 0), .inl (k 5, 3, .inr (.inr (.inr (.inr (fun i => some (w (5 + i)))))))), ((w 5), .inl (k 0, 768, .inl (fun _ => 0))), ((w 6), .inl (k 0, 768, .inl (fun _ => 0))), ((w 7), .inl (k 0, 768, .inl (fun _ => 0))), ((w 1), .inl (k 6, 8, .inr (.inr (.inr (.inr (fun _ => none)))))), ((w 2), .inl (k 6, 20, .inr (.inr (.inr (.inr (fun _ => none)))))), ((w 4), .inl (k 6, 6, .inr (.inr (.inr (.inr (fun _ => none))))))] sz) [(mo, .inr (13, u))]) (va_A [(mo, .inr (13, [.int 0, .ref (w 0), .int 0, .ref (w 1), .int 0, .int 0, .ref (w 2), .int 0, .ref (w 3), .ref (w 4), .int 0])), ((w 0), .inl (k 5, 3, .inr (.inr (.inr (.inr (fun i => some (w (5 + i)))))))), ((w 5), .inl (k 0, 768, .inl (fun _ => 0))), ((w 6), .inl (k 0, 768, .inl (fun _ => 0))), ((w 7), .inl (k 0, 768, .inl (fun _ => 0))), ((w 1), .inl (k 6, 8, .inr (.inr (.inr (.inr (fun _ => none)))))), ((w 2), .inl (k 6, 20, .inr (.inr (.inr (.inr (fun _ => none)))))), ((w 4), .inl (k 6, 6, .inr (.inr (.inr (.inr (fun _ => none))))))] sz)) 0 0 (va_A [(mo, .inr (13, [.int 0, .ref (w 0), .int 0, .ref (w 1), .int 0, .int 0, .ref (w 2), .int 0, .ref (w 3), .ref (w 4), .int 0])), ((w 0), .inl (k 5, 3, .inr (.inr (.inr (.inr (fun i => some (w (5 + i)))))))), ((w 5), .inl (k 0, 768, .inl (fun _ => 0))), ((w 6), .inl (k 0, 768, .inl (fun _ => 0))), ((w 7), .inl (k 0, 768, .inl (fun _ => 0))), ((w 1), .inl (k 6, 8, .inr (.inr (.inr (.inr (fun _ => none)))))), ((w 2), .inl (k 6, 20, .inr (.inr (.inr (.inr (fun _ => none)))))), ((w 4), .inl (k 6, 6, .inr (.inr (.inr (.inr (fun _ => none))))))] sz) := by
  refine Met.ofW (cc := cX12_faultAt) (maxL := 3) (ret := (some .int)) (by decide) rfl ?_
  intro p e s m args below meth c s₁ B hml hv
  obtain ⟨rfl, rfl, hP, hC, hD0, hHf⟩ := hv
  have hx := B.exec
  have hb := B.bytes
  have hr := B.returns
  have hts := atoms_spec (ws := wsX12_faultAt) B.pre
  have hown : s.vm.findClass RX12 = some m.cls := findClass_of_methodNamed B.named
  have hlocks := B.notSynchronized
  have hD := hD0.self (sz := s.heap.size)
  generalize hAe : va_A [(mo, .inr (13, [.int 0, .ref (w 0), .int 0, .ref (w 1), .int 0, .int 0, .ref (w 2), .int 0, .ref (w 3), .ref (w 4), .int 0])), ((w 0), .inl (k 5, 3, .inr (.inr (.inr (.inr (fun i => some (w (5 + i)))))))), ((w 5), .inl (k 0, 768, .inl (fun _ => 0))), ((w 6), .inl (k 0, 768, .inl (fun _ => 0))), ((w 7), .inl (k 0, 768, .inl (fun _ => 0))), ((w 1), .inl (k 6, 8, .inr (.inr (.inr (.inr (fun _ => none)))))), ((w 2), .inl (k 6, 20, .inr (.inr (.inr (.inr (fun _ => none)))))), ((w 4), .inl (k 6, 6, .inr (.inr (.inr (.inr (fun _ => none))))))] s.heap.size = A at hD hHf ⊢
  have hA : ∀ q : Nat, s.heap.size ≤ q → A q := fun q h => by rw [← hAe]; exact Or.inr h
  have hS : va_S A s.heap s.heap [] := va_S.rf
  refine w_entry (Nat.le_of_ble_eq_true rfl) (fun ls hl => ?_)
  have hl : lv_has ls 3 [(0, .ref mo), (1, .int x)] := hl
  refine lv_iload_n hx hb dX12_faultAt_0 rfl (lv_at hl 1 rfl) ?_
  refine lv_if_ge (tgt := 8) hx hb dX12_faultAt_1 (by decide) (fun c_1 => ?_) (fun c_1 => ?_)
  · have g_1 : 0 ≤ x.toInt := i32_le c_1
    refine lv_aload_n hx hb dX12_faultAt_8 rfl (lv_at hl 0 rfl) ?_
    refine lv_iload_n hx hb dX12_faultAt_9 rfl (lv_at hl 1 rfl) ?_
    refine pz_i (va_runV (As := [.int x]) (rest := []) ⟨hx, hb, hml, hown, hts⟩ (k_X12_fault_p l D k s.heap mo w x (hP.sub [0] rfl) (fun q9 => by rw [q9] at g_1; exact absurd g_1 (by decide))) (cwV 1 hts gX12_faultAt_X12_fault rfl rfl rfl (by decide +kernel) ⟨Nat.le_of_ble_eq_true rfl, Nat.le_of_ble_eq_true rfl⟩) ⟨pPc_fb, va_recv hC.1 hP (ci := 13) (q0 := 0) rfl rfl, pPc_go hC⟩ rfl rfl hl.1 rfl (lv_room (Nat.le_of_ble_eq_true rfl)) dX12_faultAt_10 ⟨Nat.le_of_ble_eq_true rfl, Nat.le_of_ble_eq_true rfl⟩) hS (fun r1 locs hw_r1 hS => ?_)
    subst hw_r1
    refine lv_istore_n (lv' := [(2, .int (-1)), (0, .ref mo), (1, .int x)]) hx hb dX12_faultAt_13 rfl hl (by decide) rfl (fun ls hl => ?_)
    refine lv_aload_n hx hb dX12_faultAt_14 rfl (lv_at hl 1 rfl) ?_
    refine lv_iload_n hx hb dX12_faultAt_15 rfl (lv_at hl 0 rfl) ?_
    refine lv_iconst (v := (-1)) hx hb dX12_faultAt_16 (by decide) ?_
    refine lv_icmp_ne (tgt := 24) hx hb dX12_faultAt_17 (by decide) (fun c_17 => absurd c_17 (by decide)) (fun c_17 => ?_)
    refine lv_iconst (v := 1) hx hb dX12_faultAt_20 (by decide) ?_
    refine lv_goto (tgt := 25) hx hb dX12_faultAt_21 (by decide) ?_
    have hPc := hP.sub (ws' := [(mo, .inr (13, [.int 0, .ref (w 0), .int 0, .ref (w 1), .int 0, .int 0, .ref (w 2), .int 0, .ref (w 3), .ref (w 4), .int 0]))]) [0] rfl
    have hDc := hD.sub (ws' := [(mo, .inr (13, [.int 0, .ref (w 0), .int 0, .ref (w 1), .int 0, .int 0, .ref (w 2), .int 0, .ref (w 3), .ref (w 4), .int 0]))]) [0] (by decide) rfl
    have hFc := va_free (wc := [(mo, .inr (13, [.int 0, .ref (w 0), .int 0, .ref (w 1), .int 0, .int 0, .ref (w 2), .int 0, .ref (w 3), .ref (w 4), .int 0]))]) hD hS hA [0] rfl
    refine va_calli (va_runV (As := [.int 1]) (rest := []) ⟨hx, hb, hml, hown, hts⟩ (k_X12_fails l D k e0 s.heap.size mo w 0 1) (cwV 1 hts gX12_faultAt_X12_fails rfl rfl rfl (by decide +kernel) ⟨Nat.le_of_ble_eq_true rfl, Nat.le_of_ble_eq_true rfl⟩) ⟨mPc_fb, va_recv hC.1 hPc (ci := 13) (q0 := 0) rfl rfl, mPc_go hC hHf hS hPc hDc hFc⟩ rfl rfl hl.1 rfl (lv_room (Nat.le_of_ble_eq_true rfl)) dX12_faultAt_25 ⟨Nat.le_of_ble_eq_true rfl, Nat.le_of_ble_eq_true rfl⟩) hS (fun q9 _ h9 => hFc q9 h9) hFc (fun r3 u2 t H locs ht hvm hw_r3 hB hz1 hk1 hS => ?_)
    obtain ⟨hP1, hD1⟩ := hB
    rw [ht] at hP1
    obtain ⟨hP, hD⟩ := va_join (wr := [((w 0), .inl (k 5, 3, .inr (.inr (.inr (.inr (fun i => some (w (5 + i)))))))), ((w 5), .inl (k 0, 768, .inl (fun _ => 0))), ((w 6), .inl (k 0, 768, .inl (fun _ => 0))), ((w 7), .inl (k 0, 768, .inl (fun _ => 0))), ((w 1), .inl (k 6, 8, .inr (.inr (.inr (.inr (fun _ => none)))))), ((w 2), .inl (k 6, 20, .inr (.inr (.inr (.inr (fun _ => none)))))), ((w 4), .inl (k 6, 6, .inr (.inr (.inr (.inr (fun _ => none))))))]) (w1 := [(mo, .inr (13, [.int 1, .ref (w 0), .int 0, .ref (w 1), .int 0, .int 0, .ref (w 2), .int 0, .ref (w 3), .ref (w 4), .int 0]))]) hP hD [0] [1, 2, 3, 4, 5, 6, 7] rfl rfl (by decide) (by decide) hk1 hFc hP1 hD1
    have hP : va_P D vwCl [((w 0), .inl (k 5, 3, .inr (.inr (.inr (.inr (fun i => some (w (5 + i)))))))), ((w 5), .inl (k 0, 768, .inl (fun _ => 0))), ((w 6), .inl (k 0, 768, .inl (fun _ => 0))), ((w 7), .inl (k 0, 768, .inl (fun _ => 0))), ((w 1), .inl (k 6, 8, .inr (.inr (.inr (.inr (fun _ => none)))))), ((w 2), .inl (k 6, 20, .inr (.inr (.inr (.inr (fun _ => none)))))), ((w 4), .inl (k 6, 6, .inr (.inr (.inr (.inr (fun _ => none)))))), (mo, .inr (13, [.int 1, .ref (w 0), .int 0, .ref (w 1), .int 0, .int 0, .ref (w 2), .int 0, .ref (w 3), .ref (w 4), .int 0]))] H := hP
    have hD : va_D A [((w 0), .inl (k 5, 3, .inr (.inr (.inr (.inr (fun i => some (w (5 + i)))))))), ((w 5), .inl (k 0, 768, .inl (fun _ => 0))), ((w 6), .inl (k 0, 768, .inl (fun _ => 0))), ((w 7), .inl (k 0, 768, .inl (fun _ => 0))), ((w 1), .inl (k 6, 8, .inr (.inr (.inr (.inr (fun _ => none)))))), ((w 2), .inl (k 6, 20, .inr (.inr (.inr (.inr (fun _ => none)))))), ((w 4), .inl (k 6, 6, .inr (.inr (.inr (.inr (fun _ => none)))))), (mo, .inr (13, [.int 1, .ref (w 0), .int 0, .ref (w 1), .int 0, .int 0, .ref (w 2), .int 0, .ref (w 3), .ref (w 4), .int 0]))] := hD
    have e_r3 : r3 = 1 := hw_r3.trans (by decide)
    subst e_r3
    refine lv_if_eq (tgt := 35) hx hb dX12_faultAt_28 (by decide) (fun c_28 => absurd c_28 (by decide)) (fun c_28 => ?_)
    refine lv_iconst (v := 0) hx hb dX12_faultAt_31 (by decide) ?_
    refine lv_goto (tgt := 36) hx hb dX12_faultAt_32 (by decide) ?_
    exact W.iret (v := 0) hx hb hr (fun t ht hW => ⟨⟨0, [.int 1, .ref (w 0), .int 0, .ref (w 1), .int 0, .int 0, .ref (w 2), .int 0, .ref (w 3), .ref (w 4), .int 0], rfl, rfl, ⟨by rw [ht]; exact hP.sub [7] rfl, hD.sub [7] (by decide) rfl⟩⟩, hS.F ht⟩) hS.2.2 dX12_faultAt_36
  · have g_1 : x.toInt < 0 := i32_nle c_1
    refine lv_iconst (v := (-1)) hx hb dX12_faultAt_4 (by decide) ?_
    refine lv_goto (tgt := 13) hx hb dX12_faultAt_5 (by decide) ?_
    refine lv_istore_n (lv' := [(2, .int (-1)), (0, .ref mo), (1, .int x)]) hx hb dX12_faultAt_13 rfl hl (by decide) rfl (fun ls hl => ?_)
    refine lv_aload_n hx hb dX12_faultAt_14 rfl (lv_at hl 1 rfl) ?_
    refine lv_iload_n hx hb dX12_faultAt_15 rfl (lv_at hl 0 rfl) ?_
    refine lv_iconst (v := (-1)) hx hb dX12_faultAt_16 (by decide) ?_
    refine lv_icmp_ne (tgt := 24) hx hb dX12_faultAt_17 (by decide) (fun c_17 => absurd c_17 (by decide)) (fun c_17 => ?_)
    refine lv_iconst (v := 1) hx hb dX12_faultAt_20 (by decide) ?_
    refine lv_goto (tgt := 25) hx hb dX12_faultAt_21 (by decide) ?_
    have hPc := hP.sub (ws' := [(mo, .inr (13, [.int 0, .ref (w 0), .int 0, .ref (w 1), .int 0, .int 0, .ref (w 2), .int 0, .ref (w 3), .ref (w 4), .int 0]))]) [0] rfl
    have hDc := hD.sub (ws' := [(mo, .inr (13, [.int 0, .ref (w 0), .int 0, .ref (w 1), .int 0, .int 0, .ref (w 2), .int 0, .ref (w 3), .ref (w 4), .int 0]))]) [0] (by decide) rfl
    have hFc := va_free (wc := [(mo, .inr (13, [.int 0, .ref (w 0), .int 0, .ref (w 1), .int 0, .int 0, .ref (w 2), .int 0, .ref (w 3), .ref (w 4), .int 0]))]) hD hS hA [0] rfl
    refine va_calli (va_runV (As := [.int 1]) (rest := []) ⟨hx, hb, hml, hown, hts⟩ (k_X12_fails l D k e0 s.heap.size mo w 0 1) (cwV 1 hts gX12_faultAt_X12_fails rfl rfl rfl (by decide +kernel) ⟨Nat.le_of_ble_eq_true rfl, Nat.le_of_ble_eq_true rfl⟩) ⟨mPc_fb, va_recv hC.1 hPc (ci := 13) (q0 := 0) rfl rfl, mPc_go hC hHf hS hPc hDc hFc⟩ rfl rfl hl.1 rfl (lv_room (Nat.le_of_ble_eq_true rfl)) dX12_faultAt_25 ⟨Nat.le_of_ble_eq_true rfl, Nat.le_of_ble_eq_true rfl⟩) hS (fun q9 _ h9 => hFc q9 h9) hFc (fun r6 u5 t H locs ht hvm hw_r6 hB hz1 hk1 hS => ?_)
    obtain ⟨hP1, hD1⟩ := hB
    rw [ht] at hP1
    obtain ⟨hP, hD⟩ := va_join (wr := [((w 0), .inl (k 5, 3, .inr (.inr (.inr (.inr (fun i => some (w (5 + i)))))))), ((w 5), .inl (k 0, 768, .inl (fun _ => 0))), ((w 6), .inl (k 0, 768, .inl (fun _ => 0))), ((w 7), .inl (k 0, 768, .inl (fun _ => 0))), ((w 1), .inl (k 6, 8, .inr (.inr (.inr (.inr (fun _ => none)))))), ((w 2), .inl (k 6, 20, .inr (.inr (.inr (.inr (fun _ => none)))))), ((w 4), .inl (k 6, 6, .inr (.inr (.inr (.inr (fun _ => none))))))]) (w1 := [(mo, .inr (13, [.int 1, .ref (w 0), .int 0, .ref (w 1), .int 0, .int 0, .ref (w 2), .int 0, .ref (w 3), .ref (w 4), .int 0]))]) hP hD [0] [1, 2, 3, 4, 5, 6, 7] rfl rfl (by decide) (by decide) hk1 hFc hP1 hD1
    have hP : va_P D vwCl [((w 0), .inl (k 5, 3, .inr (.inr (.inr (.inr (fun i => some (w (5 + i)))))))), ((w 5), .inl (k 0, 768, .inl (fun _ => 0))), ((w 6), .inl (k 0, 768, .inl (fun _ => 0))), ((w 7), .inl (k 0, 768, .inl (fun _ => 0))), ((w 1), .inl (k 6, 8, .inr (.inr (.inr (.inr (fun _ => none)))))), ((w 2), .inl (k 6, 20, .inr (.inr (.inr (.inr (fun _ => none)))))), ((w 4), .inl (k 6, 6, .inr (.inr (.inr (.inr (fun _ => none)))))), (mo, .inr (13, [.int 1, .ref (w 0), .int 0, .ref (w 1), .int 0, .int 0, .ref (w 2), .int 0, .ref (w 3), .ref (w 4), .int 0]))] H := hP
    have hD : va_D A [((w 0), .inl (k 5, 3, .inr (.inr (.inr (.inr (fun i => some (w (5 + i)))))))), ((w 5), .inl (k 0, 768, .inl (fun _ => 0))), ((w 6), .inl (k 0, 768, .inl (fun _ => 0))), ((w 7), .inl (k 0, 768, .inl (fun _ => 0))), ((w 1), .inl (k 6, 8, .inr (.inr (.inr (.inr (fun _ => none)))))), ((w 2), .inl (k 6, 20, .inr (.inr (.inr (.inr (fun _ => none)))))), ((w 4), .inl (k 6, 6, .inr (.inr (.inr (.inr (fun _ => none)))))), (mo, .inr (13, [.int 1, .ref (w 0), .int 0, .ref (w 1), .int 0, .int 0, .ref (w 2), .int 0, .ref (w 3), .ref (w 4), .int 0]))] := hD
    have e_r6 : r6 = 1 := hw_r6.trans (by decide)
    subst e_r6
    refine lv_if_eq (tgt := 35) hx hb dX12_faultAt_28 (by decide) (fun c_28 => absurd c_28 (by decide)) (fun c_28 => ?_)
    refine lv_iconst (v := 0) hx hb dX12_faultAt_31 (by decide) ?_
    refine lv_goto (tgt := 36) hx hb dX12_faultAt_32 (by decide) ?_
    exact W.iret (v := 0) hx hb hr (fun t ht hW => ⟨⟨0, [.int 1, .ref (w 0), .int 0, .ref (w 1), .int 0, .int 0, .ref (w 2), .int 0, .ref (w 3), .ref (w 4), .int 0], rfl, rfl, ⟨by rw [ht]; exact hP.sub [7] rfl, hD.sub [7] (by decide) rfl⟩⟩, hS.F ht⟩) hS.2.2 dX12_faultAt_36

set_option maxHeartbeats 4000000 in
set_option maxRecDepth 100000 in
theorem k_X12_checksum (l : Launch) (D : va_G) (k : Nat → ClassId) (e0 : Nat) (sz : Nat) (mo : Nat) (w : Nat → Nat)  : Met l yX12_checksum wsX12_checksum ({ frames := 0, cells := 0, slots := 0, locals := 0 }) (mPc D k e0 sz [.ref mo] [(mo, .inr (13, [.int 0, .ref (w 0), .int 0, .ref (w 1), .int 0, .int 0, .ref (w 2), .int 0, .ref (w 3), .ref (w 4), .int 0])), ((w 0), .inl (k 5, 3, .inr (.inr (.inr (.inr (fun i => some (w (5 + i)))))))), ((w 5), .inl (k 0, 768, .inl (fun _ => 0))), ((w 6), .inl (k 0, 768, .inl (fun _ => 0))), ((w 7), .inl (k 0, 768, .inl (fun _ => 0))), ((w 1), .inl (k 6, 8, .inr (.inr (.inr (.inr (fun _ => none)))))), ((w 2), .inl (k 6, 20, .inr (.inr (.inr (.inr (fun _ => none)))))), ((w 4), .inl (k 6, 6, .inr (.inr (.inr (.inr (fun _ => none))))))]) (va_Ql (fun r (u : List Value) => u[0]? = some (.int 0) ∧ r = 0) (fun u t => va_P D vwCl [(mo, .inr (13, u))] t.heap ∧ va_D (va_A [(mo, .inr (13, [.int 0, .ref (w 0), .int 0, .ref (w 1), .int 0, .int 0, .ref (w 2), .int 0, .ref (w 3), .ref (w 4), .int 0])), ((w 0), .inl (k 5, 3, .inr (.inr (.inr (.inr (fun i => some (w (5 + i)))))))), ((w 5), .inl (k 0, 768, .inl (fun _ => 0))), ((w 6), .inl (k 0, 768, .inl (fun _ => 0))), ((w 7), .inl (k 0, 768, .inl (fun _ => 0))), ((w 1), .inl (k 6, 8, .inr (.inr (.inr (.inr (fun _ => none)))))), ((w 2), .inl (k 6, 20, .inr (.inr (.inr (.inr (fun _ => none)))))), ((w 4), .inl (k 6, 6, .inr (.inr (.inr (.inr (fun _ => none))))))] sz) [(mo, .inr (13, u))]) (va_A [(mo, .inr (13, [.int 0, .ref (w 0), .int 0, .ref (w 1), .int 0, .int 0, .ref (w 2), .int 0, .ref (w 3), .ref (w 4), .int 0])), ((w 0), .inl (k 5, 3, .inr (.inr (.inr (.inr (fun i => some (w (5 + i)))))))), ((w 5), .inl (k 0, 768, .inl (fun _ => 0))), ((w 6), .inl (k 0, 768, .inl (fun _ => 0))), ((w 7), .inl (k 0, 768, .inl (fun _ => 0))), ((w 1), .inl (k 6, 8, .inr (.inr (.inr (.inr (fun _ => none)))))), ((w 2), .inl (k 6, 20, .inr (.inr (.inr (.inr (fun _ => none)))))), ((w 4), .inl (k 6, 6, .inr (.inr (.inr (.inr (fun _ => none))))))] sz)) 0 0 (va_A [(mo, .inr (13, [.int 0, .ref (w 0), .int 0, .ref (w 1), .int 0, .int 0, .ref (w 2), .int 0, .ref (w 3), .ref (w 4), .int 0])), ((w 0), .inl (k 5, 3, .inr (.inr (.inr (.inr (fun i => some (w (5 + i)))))))), ((w 5), .inl (k 0, 768, .inl (fun _ => 0))), ((w 6), .inl (k 0, 768, .inl (fun _ => 0))), ((w 7), .inl (k 0, 768, .inl (fun _ => 0))), ((w 1), .inl (k 6, 8, .inr (.inr (.inr (.inr (fun _ => none)))))), ((w 2), .inl (k 6, 20, .inr (.inr (.inr (.inr (fun _ => none)))))), ((w 4), .inl (k 6, 6, .inr (.inr (.inr (.inr (fun _ => none))))))] sz) := by
  refine Met.ofW (cc := cX12_checksum) (maxL := 5) (ret := (some .long)) (by decide) rfl ?_
  intro p e s m args below meth c s₁ B hml hv
  obtain ⟨rfl, rfl, hP, hC, hD0, hHf⟩ := hv
  have hx := B.exec
  have hb := B.bytes
  have hr := B.returns
  have hts := atoms_spec (ws := wsX12_checksum) B.pre
  have hown : s.vm.findClass RX12 = some m.cls := findClass_of_methodNamed B.named
  have hlocks := B.notSynchronized
  have hD := hD0.self (sz := s.heap.size)
  generalize hAe : va_A [(mo, .inr (13, [.int 0, .ref (w 0), .int 0, .ref (w 1), .int 0, .int 0, .ref (w 2), .int 0, .ref (w 3), .ref (w 4), .int 0])), ((w 0), .inl (k 5, 3, .inr (.inr (.inr (.inr (fun i => some (w (5 + i)))))))), ((w 5), .inl (k 0, 768, .inl (fun _ => 0))), ((w 6), .inl (k 0, 768, .inl (fun _ => 0))), ((w 7), .inl (k 0, 768, .inl (fun _ => 0))), ((w 1), .inl (k 6, 8, .inr (.inr (.inr (.inr (fun _ => none)))))), ((w 2), .inl (k 6, 20, .inr (.inr (.inr (.inr (fun _ => none)))))), ((w 4), .inl (k 6, 6, .inr (.inr (.inr (.inr (fun _ => none))))))] s.heap.size = A at hD hHf ⊢
  have hA : ∀ q : Nat, s.heap.size ≤ q → A q := fun q h => by rw [← hAe]; exact Or.inr h
  have hS : va_S A s.heap s.heap [] := va_S.rf
  refine w_entry (Nat.le_of_ble_eq_true rfl) (fun ls hl => ?_)
  have hl : lv_has ls 5 [(0, .ref mo)] := hl
  refine lv_aload_n hx hb dX12_checksum_0 rfl (lv_at hl 0 rfl) ?_
  refine lv_iconst (v := 0) hx hb dX12_checksum_1 (by decide) ?_
  refine va_put (D := D) (ci := 13) (v := .int 0) (ty := .int) (C := RX12) (T := TX12) (N := 11) hx hb hts (by decide +kernel) tyX12 tyX12_ok nmX12 hown hC.1 hP hD hS 0 rfl rfl 0 (by decide) (hts (.fieldLink RX12 32 "TriplegarthModel" "thrown" "I") (by decide +kernel)) (fun _ h9 => h9) rfl (by decide +kernel) rfl rfl (Nat.le_of_ble_eq_true rfl) dX12_checksum_2 (fun H locs hP hD hS => ?_)
  have hP : va_P D vwCl [(mo, .inr (13, [.int 0, .ref (w 0), .int 0, .ref (w 1), .int 0, .int 0, .ref (w 2), .int 0, .ref (w 3), .ref (w 4), .int 0])), ((w 0), .inl (k 5, 3, .inr (.inr (.inr (.inr (fun i => some (w (5 + i)))))))), ((w 5), .inl (k 0, 768, .inl (fun _ => 0))), ((w 6), .inl (k 0, 768, .inl (fun _ => 0))), ((w 7), .inl (k 0, 768, .inl (fun _ => 0))), ((w 1), .inl (k 6, 8, .inr (.inr (.inr (.inr (fun _ => none)))))), ((w 2), .inl (k 6, 20, .inr (.inr (.inr (.inr (fun _ => none)))))), ((w 4), .inl (k 6, 6, .inr (.inr (.inr (.inr (fun _ => none))))))] H := hP
  have hD : va_D A [(mo, .inr (13, [.int 0, .ref (w 0), .int 0, .ref (w 1), .int 0, .int 0, .ref (w 2), .int 0, .ref (w 3), .ref (w 4), .int 0])), ((w 0), .inl (k 5, 3, .inr (.inr (.inr (.inr (fun i => some (w (5 + i)))))))), ((w 5), .inl (k 0, 768, .inl (fun _ => 0))), ((w 6), .inl (k 0, 768, .inl (fun _ => 0))), ((w 7), .inl (k 0, 768, .inl (fun _ => 0))), ((w 1), .inl (k 6, 8, .inr (.inr (.inr (.inr (fun _ => none)))))), ((w 2), .inl (k 6, 20, .inr (.inr (.inr (.inr (fun _ => none)))))), ((w 4), .inl (k 6, 6, .inr (.inr (.inr (.inr (fun _ => none))))))] := hD
  refine lv_lconst (v := 0) hx hb dX12_checksum_5 (by decide) ?_
  refine lv_lstore_n (lv' := [(1, .long 0), (0, .ref mo)]) hx hb dX12_checksum_6 rfl hl (by decide) rfl (fun ls hl => ?_)
  refine lv_iconst (v := 0) hx hb dX12_checksum_7 (by decide) ?_
  refine lv_istore_n (lv' := [(3, .int 0), (1, .long 0), (0, .ref mo)]) hx hb dX12_checksum_8 rfl hl (by decide) rfl (fun ls hl => ?_)
  refine lv_iload_n hx hb dX12_checksum_9 rfl (lv_at hl 0 rfl) ?_
  refine lv_iconst (v := 3) hx hb dX12_checksum_10 (by decide) ?_
  refine lv_icmp_ge (tgt := 89) hx hb dX12_checksum_11 (by decide) (fun c_11 => absurd c_11 (by decide)) (fun c_11 => ?_)
  refine lv_iconst (v := 0) hx hb dX12_checksum_14 (by decide) ?_
  refine lv_istore (lv' := [(4, .int 0), (3, .int 0), (1, .long 0), (0, .ref mo)]) hx hb dX12_checksum_15 hl (by decide) rfl (fun ls hl => ?_)
  refine w_loop (N := 768) (fun i locs ls => va_S A s.heap H locs ∧ lv_has ls 5 [(4, .int (nI i)), (3, .int 0), (1, .long 0), (0, .ref mo)]) ?_ 0 _ _ (Nat.zero_le _) ⟨hS, lv_sub hl [0, 1, 2, 3] rfl⟩
  rintro i locs ls hi ⟨hS, hl⟩ ih
  refine lv_iload hx hb dX12_checksum_17 (lv_at hl 0 rfl) ?_
  refine lv_sipush (v := 768) hx hb dX12_checksum_19 (by decide) ?_
  refine lv_icmp_ge (tgt := 83) hx hb dX12_checksum_22 (by decide) (fun c_22 => ?_) (fun c_22 => ?_)
  · have h9 : 768 ≤ i := by have z := i32_le c_22; rw [show (768 : Int32).toInt = (768 : Int) from rfl, nI_toInt (by omega)] at z; omega
    have hi9 : i = 768 := by omega
    refine lv_iinc (v := 1) (lv' := [(3, .int 1), (4, .int (nI i)), (1, .long 0), (0, .ref mo)]) hx hb dX12_checksum_83 hl (k := 1) rfl (by decide) (by decide) rfl (fun ls hl => ?_)
    refine lv_goto (tgt := 9) hx hb dX12_checksum_86 (by decide) ?_
    refine lv_iload_n hx hb dX12_checksum_9 rfl (lv_at hl 0 rfl) ?_
    refine lv_iconst (v := 3) hx hb dX12_checksum_10 (by decide) ?_
    refine lv_icmp_ge (tgt := 89) hx hb dX12_checksum_11 (by decide) (fun c_11_1 => absurd c_11_1 (by decide)) (fun c_11_1 => ?_)
    refine lv_iconst (v := 0) hx hb dX12_checksum_14 (by decide) ?_
    refine lv_istore (lv' := [(4, .int 0), (3, .int 1), (1, .long 0), (0, .ref mo)]) hx hb dX12_checksum_15 hl (by decide) rfl (fun ls hl => ?_)
    refine w_loop (N := 768) (fun i locs ls => va_S A s.heap H locs ∧ lv_has ls 5 [(4, .int (nI i)), (3, .int 1), (1, .long 0), (0, .ref mo)]) ?_ 0 _ _ (Nat.zero_le _) ⟨hS, lv_sub hl [0, 1, 2, 3] rfl⟩
    rintro i locs ls hi ⟨hS, hl⟩ ih
    refine lv_iload hx hb dX12_checksum_17 (lv_at hl 0 rfl) ?_
    refine lv_sipush (v := 768) hx hb dX12_checksum_19 (by decide) ?_
    refine lv_icmp_ge (tgt := 83) hx hb dX12_checksum_22 (by decide) (fun c_22_1 => ?_) (fun c_22_1 => ?_)
    · have h9 : 768 ≤ i := by have z := i32_le c_22_1; rw [show (768 : Int32).toInt = (768 : Int) from rfl, nI_toInt (by omega)] at z; omega
      have hi9 : i = 768 := by omega
      refine lv_iinc (v := 2) (lv' := [(3, .int 2), (4, .int (nI i)), (1, .long 0), (0, .ref mo)]) hx hb dX12_checksum_83 hl (k := 1) rfl (by decide) (by decide) rfl (fun ls hl => ?_)
      refine lv_goto (tgt := 9) hx hb dX12_checksum_86 (by decide) ?_
      refine lv_iload_n hx hb dX12_checksum_9 rfl (lv_at hl 0 rfl) ?_
      refine lv_iconst (v := 3) hx hb dX12_checksum_10 (by decide) ?_
      refine lv_icmp_ge (tgt := 89) hx hb dX12_checksum_11 (by decide) (fun c_11_2 => absurd c_11_2 (by decide)) (fun c_11_2 => ?_)
      refine lv_iconst (v := 0) hx hb dX12_checksum_14 (by decide) ?_
      refine lv_istore (lv' := [(4, .int 0), (3, .int 2), (1, .long 0), (0, .ref mo)]) hx hb dX12_checksum_15 hl (by decide) rfl (fun ls hl => ?_)
      refine w_loop (N := 768) (fun i locs ls => va_S A s.heap H locs ∧ lv_has ls 5 [(4, .int (nI i)), (3, .int 2), (1, .long 0), (0, .ref mo)]) ?_ 0 _ _ (Nat.zero_le _) ⟨hS, lv_sub hl [0, 1, 2, 3] rfl⟩
      rintro i locs ls hi ⟨hS, hl⟩ ih
      refine lv_iload hx hb dX12_checksum_17 (lv_at hl 0 rfl) ?_
      refine lv_sipush (v := 768) hx hb dX12_checksum_19 (by decide) ?_
      refine lv_icmp_ge (tgt := 83) hx hb dX12_checksum_22 (by decide) (fun c_22_2 => ?_) (fun c_22_2 => ?_)
      · have h9 : 768 ≤ i := by have z := i32_le c_22_2; rw [show (768 : Int32).toInt = (768 : Int) from rfl, nI_toInt (by omega)] at z; omega
        have hi9 : i = 768 := by omega
        refine lv_iinc (v := 3) (lv' := [(3, .int 3), (4, .int (nI i)), (1, .long 0), (0, .ref mo)]) hx hb dX12_checksum_83 hl (k := 1) rfl (by decide) (by decide) rfl (fun ls hl => ?_)
        refine lv_goto (tgt := 9) hx hb dX12_checksum_86 (by decide) ?_
        refine lv_iload_n hx hb dX12_checksum_9 rfl (lv_at hl 0 rfl) ?_
        refine lv_iconst (v := 3) hx hb dX12_checksum_10 (by decide) ?_
        refine lv_icmp_ge (tgt := 89) hx hb dX12_checksum_11 (by decide) (fun c_11_3 => ?_) (fun c_11_3 => absurd (by decide) c_11_3)
        refine lv_lload_n hx hb dX12_checksum_89 rfl (lv_at hl 2 rfl) ?_
        exact W.lret (v := 0) hx hb hr (fun t ht hW => ⟨⟨0, [.int 0, .ref (w 0), .int 0, .ref (w 1), .int 0, .int 0, .ref (w 2), .int 0, .ref (w 3), .ref (w 4), .int 0], rfl, ⟨rfl, rfl⟩, ⟨by rw [ht]; exact hP.sub [0] rfl, hD.sub [0] (by decide) rfl⟩⟩, hS.F ht⟩) hS.2.2 dX12_checksum_90
      · have hlt : i < 768 := by have z := i32_nle c_22_2; rw [show (768 : Int32).toInt = (768 : Int) from rfl, nI_toInt (by omega)] at z; omega
        refine lv_aload_n hx hb dX12_checksum_25 rfl (lv_at hl 3 rfl) ?_
        refine va_get (D := D) (ci := 13) (v := .ref (w 0)) (C := RX12) (T := TX12) (N := 11) hx hb hts (by decide +kernel) hown hC.1 hP 0 rfl rfl 1 (by decide) (hts (.fieldLink RX12 11 "TriplegarthModel" "there" "[[Z") (by decide +kernel)) (fun _ h9 => h9) rfl dX12_checksum_26 ?_
        refine lv_iload_n hx hb dX12_checksum_29 rfl (lv_at hl 1 rfl) ?_
        refine w_aldA hx hb hC.1 hP 1 5 rfl rfl (vp_in_nI (n := 2) (N := 3) (by decide) (by decide)) dX12_checksum_30 ?_
        refine w_topr (y := .ref (w 7)) rfl ?_
        refine lv_iload hx hb dX12_checksum_31 (lv_at hl 0 rfl) ?_
        refine va_zald hx hb hC.1 hP 4 0 rfl rfl (vp_in_nI hlt (by decide)) dX12_checksum_33 ?_
        refine w_top (y := 0) rfl ?_
        refine lv_if_eq (tgt := 77) hx hb dX12_checksum_34 (by decide) (fun c_34 => ?_) (fun c_34 => absurd (by decide) c_34)
        refine lv_iinc (v := nI (i + 1)) (lv' := [(4, .int (nI (i + 1))), (3, .int 2), (1, .long 0), (0, .ref mo)]) hx hb dX12_checksum_77 hl (k := 0) rfl (nI_1 i) (by decide) rfl (fun ls hl => ?_)
        refine lv_goto (tgt := 17) hx hb dX12_checksum_80 (by decide) ?_
        exact ih locs ls hlt ⟨hS, lv_sub hl [0, 1, 2, 3] rfl⟩
    · have hlt : i < 768 := by have z := i32_nle c_22_1; rw [show (768 : Int32).toInt = (768 : Int) from rfl, nI_toInt (by omega)] at z; omega
      refine lv_aload_n hx hb dX12_checksum_25 rfl (lv_at hl 3 rfl) ?_
      refine va_get (D := D) (ci := 13) (v := .ref (w 0)) (C := RX12) (T := TX12) (N := 11) hx hb hts (by decide +kernel) hown hC.1 hP 0 rfl rfl 1 (by decide) (hts (.fieldLink RX12 11 "TriplegarthModel" "there" "[[Z") (by decide +kernel)) (fun _ h9 => h9) rfl dX12_checksum_26 ?_
      refine lv_iload_n hx hb dX12_checksum_29 rfl (lv_at hl 1 rfl) ?_
      refine w_aldA hx hb hC.1 hP 1 5 rfl rfl (vp_in_nI (n := 1) (N := 3) (by decide) (by decide)) dX12_checksum_30 ?_
      refine w_topr (y := .ref (w 6)) rfl ?_
      refine lv_iload hx hb dX12_checksum_31 (lv_at hl 0 rfl) ?_
      refine va_zald hx hb hC.1 hP 3 0 rfl rfl (vp_in_nI hlt (by decide)) dX12_checksum_33 ?_
      refine w_top (y := 0) rfl ?_
      refine lv_if_eq (tgt := 77) hx hb dX12_checksum_34 (by decide) (fun c_34 => ?_) (fun c_34 => absurd (by decide) c_34)
      refine lv_iinc (v := nI (i + 1)) (lv' := [(4, .int (nI (i + 1))), (3, .int 1), (1, .long 0), (0, .ref mo)]) hx hb dX12_checksum_77 hl (k := 0) rfl (nI_1 i) (by decide) rfl (fun ls hl => ?_)
      refine lv_goto (tgt := 17) hx hb dX12_checksum_80 (by decide) ?_
      exact ih locs ls hlt ⟨hS, lv_sub hl [0, 1, 2, 3] rfl⟩
  · have hlt : i < 768 := by have z := i32_nle c_22; rw [show (768 : Int32).toInt = (768 : Int) from rfl, nI_toInt (by omega)] at z; omega
    refine lv_aload_n hx hb dX12_checksum_25 rfl (lv_at hl 3 rfl) ?_
    refine va_get (D := D) (ci := 13) (v := .ref (w 0)) (C := RX12) (T := TX12) (N := 11) hx hb hts (by decide +kernel) hown hC.1 hP 0 rfl rfl 1 (by decide) (hts (.fieldLink RX12 11 "TriplegarthModel" "there" "[[Z") (by decide +kernel)) (fun _ h9 => h9) rfl dX12_checksum_26 ?_
    refine lv_iload_n hx hb dX12_checksum_29 rfl (lv_at hl 1 rfl) ?_
    refine w_aldA hx hb hC.1 hP 1 5 rfl rfl (vp_in_nI (n := 0) (N := 3) (by decide) (by decide)) dX12_checksum_30 ?_
    refine w_topr (y := .ref (w 5)) rfl ?_
    refine lv_iload hx hb dX12_checksum_31 (lv_at hl 0 rfl) ?_
    refine va_zald hx hb hC.1 hP 2 0 rfl rfl (vp_in_nI hlt (by decide)) dX12_checksum_33 ?_
    refine w_top (y := 0) rfl ?_
    refine lv_if_eq (tgt := 77) hx hb dX12_checksum_34 (by decide) (fun c_34 => ?_) (fun c_34 => absurd (by decide) c_34)
    refine lv_iinc (v := nI (i + 1)) (lv' := [(4, .int (nI (i + 1))), (3, .int 0), (1, .long 0), (0, .ref mo)]) hx hb dX12_checksum_77 hl (k := 0) rfl (nI_1 i) (by decide) rfl (fun ls hl => ?_)
    refine lv_goto (tgt := 17) hx hb dX12_checksum_80 (by decide) ?_
    exact ih locs ls hlt ⟨hS, lv_sub hl [0, 1, 2, 3] rfl⟩

set_option maxHeartbeats 4000000 in
set_option maxRecDepth 100000 in
theorem k_X12_isSound (l : Launch) (D : va_G) (k : Nat → ClassId) (e0 : Nat) (sz : Nat) (mo : Nat) (w : Nat → Nat)  : Met l yX12_isSound wsX12_isSound ({ frames := 0, cells := 0, slots := 0, locals := 0 }) (mPc D k e0 sz [.ref mo] [(mo, .inr (13, [.int 0, .ref (w 0), .int 0, .ref (w 1), .int 0, .int 0, .ref (w 2), .int 0, .ref (w 3), .ref (w 4), .int 0])), ((w 0), .inl (k 5, 3, .inr (.inr (.inr (.inr (fun i => some (w (5 + i)))))))), ((w 5), .inl (k 0, 768, .inl (fun _ => 0))), ((w 6), .inl (k 0, 768, .inl (fun _ => 0))), ((w 7), .inl (k 0, 768, .inl (fun _ => 0))), ((w 1), .inl (k 6, 8, .inr (.inr (.inr (.inr (fun _ => none)))))), ((w 2), .inl (k 6, 20, .inr (.inr (.inr (.inr (fun _ => none)))))), ((w 4), .inl (k 6, 6, .inr (.inr (.inr (.inr (fun _ => none))))))]) (va_Qi (fun r (u : List Value) => u[0]? = some (.int 0) ∧ r = 1) (fun u t => va_P D vwCl [(mo, .inr (13, u))] t.heap ∧ va_D (va_A [(mo, .inr (13, [.int 0, .ref (w 0), .int 0, .ref (w 1), .int 0, .int 0, .ref (w 2), .int 0, .ref (w 3), .ref (w 4), .int 0])), ((w 0), .inl (k 5, 3, .inr (.inr (.inr (.inr (fun i => some (w (5 + i)))))))), ((w 5), .inl (k 0, 768, .inl (fun _ => 0))), ((w 6), .inl (k 0, 768, .inl (fun _ => 0))), ((w 7), .inl (k 0, 768, .inl (fun _ => 0))), ((w 1), .inl (k 6, 8, .inr (.inr (.inr (.inr (fun _ => none)))))), ((w 2), .inl (k 6, 20, .inr (.inr (.inr (.inr (fun _ => none)))))), ((w 4), .inl (k 6, 6, .inr (.inr (.inr (.inr (fun _ => none))))))] sz) [(mo, .inr (13, u))]) (va_A [(mo, .inr (13, [.int 0, .ref (w 0), .int 0, .ref (w 1), .int 0, .int 0, .ref (w 2), .int 0, .ref (w 3), .ref (w 4), .int 0])), ((w 0), .inl (k 5, 3, .inr (.inr (.inr (.inr (fun i => some (w (5 + i)))))))), ((w 5), .inl (k 0, 768, .inl (fun _ => 0))), ((w 6), .inl (k 0, 768, .inl (fun _ => 0))), ((w 7), .inl (k 0, 768, .inl (fun _ => 0))), ((w 1), .inl (k 6, 8, .inr (.inr (.inr (.inr (fun _ => none)))))), ((w 2), .inl (k 6, 20, .inr (.inr (.inr (.inr (fun _ => none)))))), ((w 4), .inl (k 6, 6, .inr (.inr (.inr (.inr (fun _ => none))))))] sz)) 0 0 (va_A [(mo, .inr (13, [.int 0, .ref (w 0), .int 0, .ref (w 1), .int 0, .int 0, .ref (w 2), .int 0, .ref (w 3), .ref (w 4), .int 0])), ((w 0), .inl (k 5, 3, .inr (.inr (.inr (.inr (fun i => some (w (5 + i)))))))), ((w 5), .inl (k 0, 768, .inl (fun _ => 0))), ((w 6), .inl (k 0, 768, .inl (fun _ => 0))), ((w 7), .inl (k 0, 768, .inl (fun _ => 0))), ((w 1), .inl (k 6, 8, .inr (.inr (.inr (.inr (fun _ => none)))))), ((w 2), .inl (k 6, 20, .inr (.inr (.inr (.inr (fun _ => none)))))), ((w 4), .inl (k 6, 6, .inr (.inr (.inr (.inr (fun _ => none))))))] sz) := by
  refine Met.ofW (cc := cX12_isSound) (maxL := 1) (ret := (some .boolean)) (by decide) rfl ?_
  intro p e s m args below meth c s₁ B hml hv
  obtain ⟨rfl, rfl, hP, hC, hD0, hHf⟩ := hv
  have hx := B.exec
  have hb := B.bytes
  have hr := B.returns
  have hts := atoms_spec (ws := wsX12_isSound) B.pre
  have hown : s.vm.findClass RX12 = some m.cls := findClass_of_methodNamed B.named
  have hlocks := B.notSynchronized
  have hD := hD0.self (sz := s.heap.size)
  generalize hAe : va_A [(mo, .inr (13, [.int 0, .ref (w 0), .int 0, .ref (w 1), .int 0, .int 0, .ref (w 2), .int 0, .ref (w 3), .ref (w 4), .int 0])), ((w 0), .inl (k 5, 3, .inr (.inr (.inr (.inr (fun i => some (w (5 + i)))))))), ((w 5), .inl (k 0, 768, .inl (fun _ => 0))), ((w 6), .inl (k 0, 768, .inl (fun _ => 0))), ((w 7), .inl (k 0, 768, .inl (fun _ => 0))), ((w 1), .inl (k 6, 8, .inr (.inr (.inr (.inr (fun _ => none)))))), ((w 2), .inl (k 6, 20, .inr (.inr (.inr (.inr (fun _ => none)))))), ((w 4), .inl (k 6, 6, .inr (.inr (.inr (.inr (fun _ => none))))))] s.heap.size = A at hD hHf ⊢
  have hA : ∀ q : Nat, s.heap.size ≤ q → A q := fun q h => by rw [← hAe]; exact Or.inr h
  have hS : va_S A s.heap s.heap [] := va_S.rf
  refine w_entry (Nat.le_of_ble_eq_true rfl) (fun ls hl => ?_)
  have hl : lv_has ls 1 [(0, .ref mo)] := hl
  refine lv_aload_n hx hb dX12_isSound_0 rfl (lv_at hl 0 rfl) ?_
  refine lv_iconst (v := 0) hx hb dX12_isSound_1 (by decide) ?_
  refine va_put (D := D) (ci := 13) (v := .int 0) (ty := .int) (C := RX12) (T := TX12) (N := 11) hx hb hts (by decide +kernel) tyX12 tyX12_ok nmX12 hown hC.1 hP hD hS 0 rfl rfl 0 (by decide) (hts (.fieldLink RX12 32 "TriplegarthModel" "thrown" "I") (by decide +kernel)) (fun _ h9 => h9) rfl (by decide +kernel) rfl rfl (Nat.le_of_ble_eq_true rfl) dX12_isSound_2 (fun H locs hP hD hS => ?_)
  have hP : va_P D vwCl [(mo, .inr (13, [.int 0, .ref (w 0), .int 0, .ref (w 1), .int 0, .int 0, .ref (w 2), .int 0, .ref (w 3), .ref (w 4), .int 0])), ((w 0), .inl (k 5, 3, .inr (.inr (.inr (.inr (fun i => some (w (5 + i)))))))), ((w 5), .inl (k 0, 768, .inl (fun _ => 0))), ((w 6), .inl (k 0, 768, .inl (fun _ => 0))), ((w 7), .inl (k 0, 768, .inl (fun _ => 0))), ((w 1), .inl (k 6, 8, .inr (.inr (.inr (.inr (fun _ => none)))))), ((w 2), .inl (k 6, 20, .inr (.inr (.inr (.inr (fun _ => none)))))), ((w 4), .inl (k 6, 6, .inr (.inr (.inr (.inr (fun _ => none))))))] H := hP
  have hD : va_D A [(mo, .inr (13, [.int 0, .ref (w 0), .int 0, .ref (w 1), .int 0, .int 0, .ref (w 2), .int 0, .ref (w 3), .ref (w 4), .int 0])), ((w 0), .inl (k 5, 3, .inr (.inr (.inr (.inr (fun i => some (w (5 + i)))))))), ((w 5), .inl (k 0, 768, .inl (fun _ => 0))), ((w 6), .inl (k 0, 768, .inl (fun _ => 0))), ((w 7), .inl (k 0, 768, .inl (fun _ => 0))), ((w 1), .inl (k 6, 8, .inr (.inr (.inr (.inr (fun _ => none)))))), ((w 2), .inl (k 6, 20, .inr (.inr (.inr (.inr (fun _ => none)))))), ((w 4), .inl (k 6, 6, .inr (.inr (.inr (.inr (fun _ => none))))))] := hD
  refine lv_iconst (v := 1) hx hb dX12_isSound_5 (by decide) ?_
  exact W.zret (v := 1) (ty := .boolean) hx hb hr (rfl) (fun t ht hW => ⟨⟨1, [.int 0, .ref (w 0), .int 0, .ref (w 1), .int 0, .int 0, .ref (w 2), .int 0, .ref (w 3), .ref (w 4), .int 0], rfl, ⟨rfl, rfl⟩, ⟨by rw [ht]; exact hP.sub [0] rfl, hD.sub [0] (by decide) rfl⟩⟩, hS.F ht⟩) hS.2.2 dX12_isSound_6

set_option maxHeartbeats 4000000 in
set_option maxRecDepth 100000 in
theorem k_X11_isBelow (l : Launch) (D : va_G) (k : Nat → ClassId) (h0 : Heap) (x y : Int32) : Met l yX11_isBelow wsX11_isBelow ({ frames := 0, cells := 0, slots := 0, locals := 0 }) (pPc D k [.int x, .int y] h0) (va_Qi (fun r (_ : Unit) => r = bi (0 ≤ x.toInt ∧ x.toInt < y.toInt)) (fun _ t => t.heap = h0) (fun _ => False)) 0 0 (fun _ => False) := by
  refine Met.ofW (cc := cX11_isBelow) (maxL := 2) (ret := (some .boolean)) (by decide) rfl ?_
  intro p e s m args below meth c s₁ B hml hv
  obtain ⟨rfl, rfl, hC⟩ := hv
  have hx := B.exec
  have hb := B.bytes
  have hr := B.returns
  have hts := atoms_spec (ws := wsX11_isBelow) B.pre
  have hown : s.vm.findClass RX11 = some m.cls := findClass_of_methodNamed B.named
  have hlocks := B.notSynchronized
  have hS : va_S (fun _ => False) s.heap s.heap [] := va_S.rf
  refine w_entry (Nat.le_of_ble_eq_true rfl) (fun ls hl => ?_)
  have hl : lv_has ls 2 [(0, .int x), (1, .int y)] := hl
  refine lv_iload_n hx hb dX11_isBelow_0 rfl (lv_at hl 0 rfl) ?_
  refine lv_if_lt (tgt := 13) hx hb dX11_isBelow_1 (by decide) (fun c_1 => ?_) (fun c_1 => ?_)
  · have g_1 : x.toInt < 0 := i32_lt c_1
    refine lv_iconst (v := 0) hx hb dX11_isBelow_13 (by decide) ?_
    exact W.zret (v := 0) (ty := .boolean) hx hb hr (rfl) (fun t ht hW => ⟨⟨0, (), rfl, bi_f (by omega), ht⟩, hS.F ht⟩) hS.2.2 dX11_isBelow_14
  · have g_1 : 0 ≤ x.toInt := i32_nlt c_1
    refine lv_iload_n hx hb dX11_isBelow_4 rfl (lv_at hl 0 rfl) ?_
    refine lv_iload_n hx hb dX11_isBelow_5 rfl (lv_at hl 1 rfl) ?_
    refine lv_icmp_ge (tgt := 13) hx hb dX11_isBelow_6 (by decide) (fun c_6 => ?_) (fun c_6 => ?_)
    · have g_6 : y.toInt ≤ x.toInt := i32_le c_6
      refine lv_iconst (v := 0) hx hb dX11_isBelow_13 (by decide) ?_
      exact W.zret (v := 0) (ty := .boolean) hx hb hr (rfl) (fun t ht hW => ⟨⟨0, (), rfl, bi_f (by omega), ht⟩, hS.F ht⟩) hS.2.2 dX11_isBelow_14
    · have g_6 : x.toInt < y.toInt := i32_nle c_6
      refine lv_iconst (v := 1) hx hb dX11_isBelow_9 (by decide) ?_
      refine lv_goto (tgt := 14) hx hb dX11_isBelow_10 (by decide) ?_
      exact W.zret (v := 1) (ty := .boolean) hx hb hr (rfl) (fun t ht hW => ⟨⟨1, (), rfl, bi_t (by omega), ht⟩, hS.F ht⟩) hS.2.2 dX11_isBelow_14

set_option maxHeartbeats 4000000 in
set_option maxRecDepth 100000 in
theorem k_X11_isPlace (l : Launch) (D : va_G) (k : Nat → ClassId) (h0 : Heap) (x : Int32) : Met l yX11_isPlace wsX11_isPlace ({ frames := 1, cells := 0, slots := 0, locals := 21 }) (pPc D k [.int x] h0) (va_Qi (fun r (_ : Unit) => r = bi ((0 ≤ x.toInt ∧ x.toInt < 12) ∨ (20 ≤ x.toInt ∧ x.toInt < 23))) (fun _ t => t.heap = h0) (fun _ => False)) 0 0 (fun _ => False) := by
  refine Met.ofW (cc := cX11_isPlace) (maxL := 1) (ret := (some .boolean)) (by decide) rfl ?_
  intro p e s m args below meth c s₁ B hml hv
  obtain ⟨rfl, rfl, hC⟩ := hv
  have hx := B.exec
  have hb := B.bytes
  have hr := B.returns
  have hts := atoms_spec (ws := wsX11_isPlace) B.pre
  have hown : s.vm.findClass RX11 = some m.cls := findClass_of_methodNamed B.named
  have hlocks := B.notSynchronized
  have hS : va_S (fun _ => False) s.heap s.heap [] := va_S.rf
  refine w_entry (Nat.le_of_ble_eq_true rfl) (fun ls hl => ?_)
  have hl : lv_has ls 1 [(0, .int x)] := hl
  refine lv_iload_n hx hb dX11_isPlace_0 rfl (lv_at hl 0 rfl) ?_
  refine lv_bipush (v := 12) hx hb dX11_isPlace_1 (by decide) ?_
  refine pz_i (va_runS (As := [.int x, .int 12]) (rest := []) ⟨hx, hb, hml, hown, hts⟩ (k_X11_isBelow l D k s.heap x 12) (va_cwS 2 hts gX11_isPlace_X11_isBelow rfl rfl rfl (by decide +kernel) ⟨Nat.le_of_ble_eq_true rfl, Nat.le_of_ble_eq_true rfl⟩) ⟨pPc_fb, pPc_go hC⟩ rfl rfl hl.1 rfl (lv_room (Nat.le_of_ble_eq_true rfl)) dX11_isPlace_3 ⟨Nat.le_of_ble_eq_true rfl, Nat.le_of_ble_eq_true rfl⟩) hS (fun r1 locs hw_r1 hS => ?_)
  refine lv_if_ne (tgt := 20) hx hb dX11_isPlace_6 (by decide) (fun c_6 => ?_) (fun c_6 => ?_)
  · have f_6 := bi_n hw_r1 c_6
    refine lv_iconst (v := 1) hx hb dX11_isPlace_20 (by decide) ?_
    refine lv_goto (tgt := 25) hx hb dX11_isPlace_21 (by decide) ?_
    exact W.zret (v := 1) (ty := .boolean) hx hb hr (rfl) (fun t ht hW => ⟨⟨1, (), rfl, bi_t (by have z1 := i32_sub20 x; have z2 := i32_add20 x; have z3 : (12 : Int32).toInt = 12 := (by decide); have z4 : (3 : Int32).toInt = 3 := (by decide); omega), ht⟩, hS.F ht⟩) hS.2.2 dX11_isPlace_25
  · have f_6 := bi_z hw_r1 c_6
    refine lv_iload_n hx hb dX11_isPlace_9 rfl (lv_at hl 0 rfl) ?_
    refine lv_bipush (v := 20) hx hb dX11_isPlace_10 (by decide) ?_
    refine lv_isub hx hb dX11_isPlace_12 ?_
    refine w_top (y := x - 20) (rfl) ?_
    refine lv_iconst (v := 3) hx hb dX11_isPlace_13 (by decide) ?_
    refine pz_i (va_runS (As := [.int (x - 20), .int 3]) (rest := []) ⟨hx, hb, hml, hown, hts⟩ (k_X11_isBelow l D k s.heap (x - 20) 3) (va_cwS 2 hts gX11_isPlace_X11_isBelow rfl rfl rfl (by decide +kernel) ⟨Nat.le_of_ble_eq_true rfl, Nat.le_of_ble_eq_true rfl⟩) ⟨pPc_fb, pPc_go hC⟩ rfl rfl hl.1 rfl (lv_room (Nat.le_of_ble_eq_true rfl)) dX11_isPlace_14 ⟨Nat.le_of_ble_eq_true rfl, Nat.le_of_ble_eq_true rfl⟩) hS (fun r2 locs hw_r2 hS => ?_)
    refine lv_if_eq (tgt := 24) hx hb dX11_isPlace_17 (by decide) (fun c_17 => ?_) (fun c_17 => ?_)
    · have f_17 := bi_z hw_r2 c_17
      refine lv_iconst (v := 0) hx hb dX11_isPlace_24 (by decide) ?_
      exact W.zret (v := 0) (ty := .boolean) hx hb hr (rfl) (fun t ht hW => ⟨⟨0, (), rfl, bi_f (by have z1 := i32_sub20 x; have z2 := i32_add20 x; have z3 : (12 : Int32).toInt = 12 := (by decide); have z4 : (3 : Int32).toInt = 3 := (by decide); omega), ht⟩, hS.F ht⟩) hS.2.2 dX11_isPlace_25
    · have f_17 := bi_n hw_r2 c_17
      refine lv_iconst (v := 1) hx hb dX11_isPlace_20 (by decide) ?_
      refine lv_goto (tgt := 25) hx hb dX11_isPlace_21 (by decide) ?_
      exact W.zret (v := 1) (ty := .boolean) hx hb hr (rfl) (fun t ht hW => ⟨⟨1, (), rfl, bi_t (by have z1 := i32_sub20 x; have z2 := i32_add20 x; have z3 : (12 : Int32).toInt = 12 := (by decide); have z4 : (3 : Int32).toInt = 3 := (by decide); omega), ht⟩, hS.F ht⟩) hS.2.2 dX11_isPlace_25

set_option maxHeartbeats 4000000 in
set_option maxRecDepth 100000 in
theorem k_X11_arePlaces (l : Launch) (D : va_G) (k : Nat → ClassId) (h0 : Heap) (x y z : Int32) : Met l yX11_arePlaces wsX11_arePlaces ({ frames := 2, cells := 0, slots := 0, locals := 41 }) (pPc D k [.int x, .int y, .int z] h0) (va_Qi (fun r (_ : Unit) => r = bi (((0 ≤ x.toInt ∧ x.toInt < 12) ∨ (20 ≤ x.toInt ∧ x.toInt < 23)) ∧ ((0 ≤ y.toInt ∧ y.toInt < 12) ∨ (20 ≤ y.toInt ∧ y.toInt < 23)) ∧ ((0 ≤ z.toInt ∧ z.toInt < 12) ∨ (20 ≤ z.toInt ∧ z.toInt < 23)))) (fun _ t => t.heap = h0) (fun _ => False)) 0 0 (fun _ => False) := by
  refine Met.ofW (cc := cX11_arePlaces) (maxL := 3) (ret := (some .boolean)) (by decide) rfl ?_
  intro p e s m args below meth c s₁ B hml hv
  obtain ⟨rfl, rfl, hC⟩ := hv
  have hx := B.exec
  have hb := B.bytes
  have hr := B.returns
  have hts := atoms_spec (ws := wsX11_arePlaces) B.pre
  have hown : s.vm.findClass RX11 = some m.cls := findClass_of_methodNamed B.named
  have hlocks := B.notSynchronized
  have hS : va_S (fun _ => False) s.heap s.heap [] := va_S.rf
  refine w_entry (Nat.le_of_ble_eq_true rfl) (fun ls hl => ?_)
  have hl : lv_has ls 3 [(0, .int x), (1, .int y), (2, .int z)] := hl
  refine lv_iload_n hx hb dX11_arePlaces_0 rfl (lv_at hl 0 rfl) ?_
  refine pz_i (va_runS (As := [.int x]) (rest := []) ⟨hx, hb, hml, hown, hts⟩ (k_X11_isPlace l D k s.heap x) (va_cwS 1 hts gX11_arePlaces_X11_isPlace rfl rfl rfl (by decide +kernel) ⟨Nat.le_of_ble_eq_true rfl, Nat.le_of_ble_eq_true rfl⟩) ⟨pPc_fb, pPc_go hC⟩ rfl rfl hl.1 rfl (lv_room (Nat.le_of_ble_eq_true rfl)) dX11_arePlaces_1 ⟨Nat.le_of_ble_eq_true rfl, Nat.le_of_ble_eq_true rfl⟩) hS (fun r1 locs hw_r1 hS => ?_)
  refine lv_if_eq (tgt := 25) hx hb dX11_arePlaces_4 (by decide) (fun c_4 => ?_) (fun c_4 => ?_)
  · have f_4 := bi_z hw_r1 c_4
    refine lv_iconst (v := 0) hx hb dX11_arePlaces_25 (by decide) ?_
    exact W.zret (v := 0) (ty := .boolean) hx hb hr (rfl) (fun t ht hW => ⟨⟨0, (), rfl, bi_f (by omega), ht⟩, hS.F ht⟩) hS.2.2 dX11_arePlaces_26
  · have f_4 := bi_n hw_r1 c_4
    refine lv_iload_n hx hb dX11_arePlaces_7 rfl (lv_at hl 1 rfl) ?_
    refine pz_i (va_runS (As := [.int y]) (rest := []) ⟨hx, hb, hml, hown, hts⟩ (k_X11_isPlace l D k s.heap y) (va_cwS 1 hts gX11_arePlaces_X11_isPlace rfl rfl rfl (by decide +kernel) ⟨Nat.le_of_ble_eq_true rfl, Nat.le_of_ble_eq_true rfl⟩) ⟨pPc_fb, pPc_go hC⟩ rfl rfl hl.1 rfl (lv_room (Nat.le_of_ble_eq_true rfl)) dX11_arePlaces_8 ⟨Nat.le_of_ble_eq_true rfl, Nat.le_of_ble_eq_true rfl⟩) hS (fun r2 locs hw_r2 hS => ?_)
    refine lv_if_eq (tgt := 25) hx hb dX11_arePlaces_11 (by decide) (fun c_11 => ?_) (fun c_11 => ?_)
    · have f_11 := bi_z hw_r2 c_11
      refine lv_iconst (v := 0) hx hb dX11_arePlaces_25 (by decide) ?_
      exact W.zret (v := 0) (ty := .boolean) hx hb hr (rfl) (fun t ht hW => ⟨⟨0, (), rfl, bi_f (by omega), ht⟩, hS.F ht⟩) hS.2.2 dX11_arePlaces_26
    · have f_11 := bi_n hw_r2 c_11
      refine lv_iload_n hx hb dX11_arePlaces_14 rfl (lv_at hl 2 rfl) ?_
      refine pz_i (va_runS (As := [.int z]) (rest := []) ⟨hx, hb, hml, hown, hts⟩ (k_X11_isPlace l D k s.heap z) (va_cwS 1 hts gX11_arePlaces_X11_isPlace rfl rfl rfl (by decide +kernel) ⟨Nat.le_of_ble_eq_true rfl, Nat.le_of_ble_eq_true rfl⟩) ⟨pPc_fb, pPc_go hC⟩ rfl rfl hl.1 rfl (lv_room (Nat.le_of_ble_eq_true rfl)) dX11_arePlaces_15 ⟨Nat.le_of_ble_eq_true rfl, Nat.le_of_ble_eq_true rfl⟩) hS (fun r3 locs hw_r3 hS => ?_)
      refine lv_if_eq (tgt := 25) hx hb dX11_arePlaces_18 (by decide) (fun c_18 => ?_) (fun c_18 => ?_)
      · have f_18 := bi_z hw_r3 c_18
        refine lv_iconst (v := 0) hx hb dX11_arePlaces_25 (by decide) ?_
        exact W.zret (v := 0) (ty := .boolean) hx hb hr (rfl) (fun t ht hW => ⟨⟨0, (), rfl, bi_f (by omega), ht⟩, hS.F ht⟩) hS.2.2 dX11_arePlaces_26
      · have f_18 := bi_n hw_r3 c_18
        refine lv_iconst (v := 1) hx hb dX11_arePlaces_21 (by decide) ?_
        refine lv_goto (tgt := 26) hx hb dX11_arePlaces_22 (by decide) ?_
        exact W.zret (v := 1) (ty := .boolean) hx hb hr (rfl) (fun t ht hW => ⟨⟨1, (), rfl, bi_t (by omega), ht⟩, hS.F ht⟩) hS.2.2 dX11_arePlaces_26

set_option maxHeartbeats 4000000 in
set_option maxRecDepth 100000 in
theorem k_X11_isRule (l : Launch) (D : va_G) (k : Nat → ClassId) (h0 : Heap) (kd x y z : Int32) : Met l yX11_isRule wsX11_isRule ({ frames := 1, cells := 0, slots := 0, locals := 21 }) (pPc D k [.int kd, .int x, .int y, .int z] h0) (va_Qi (fun r (_ : Unit) => r = bi ((0 ≤ x.toInt ∧ x.toInt < 8) ∧ (kd.toInt = 116 ∨ (kd.toInt = 99 ∧ (0 ≤ y.toInt ∧ y.toInt < 8) ∧ (0 ≤ z.toInt ∧ z.toInt < 8)) ∨ ((kd.toInt = 115 ∨ kd.toInt = 105) ∧ (0 ≤ y.toInt ∧ y.toInt < 8))))) (fun _ t => t.heap = h0) (fun _ => False)) 0 0 (fun _ => False) := by
  refine Met.ofW (cc := cX11_isRule) (maxL := 4) (ret := (some .boolean)) (by decide) rfl ?_
  intro p e s m args below meth c s₁ B hml hv
  obtain ⟨rfl, rfl, hC⟩ := hv
  have hx := B.exec
  have hb := B.bytes
  have hr := B.returns
  have hts := atoms_spec (ws := wsX11_isRule) B.pre
  have hown : s.vm.findClass RX11 = some m.cls := findClass_of_methodNamed B.named
  have hlocks := B.notSynchronized
  have hS : va_S (fun _ => False) s.heap s.heap [] := va_S.rf
  have z8 : (8 : Int32).toInt = 8 := by decide
  refine w_entry (Nat.le_of_ble_eq_true rfl) (fun ls hl => ?_)
  have hl : lv_has ls 4 [(0, .int kd), (1, .int x), (2, .int y), (3, .int z)] := hl
  refine lv_iload_n hx hb dX11_isRule_0 rfl (lv_at hl 1 rfl) ?_
  refine lv_bipush (v := 8) hx hb dX11_isRule_1 (by decide) ?_
  refine pz_i (va_runS (As := [.int x, .int 8]) (rest := []) ⟨hx, hb, hml, hown, hts⟩ (k_X11_isBelow l D k s.heap x 8) (va_cwS 2 hts gX11_isRule_X11_isBelow rfl rfl rfl (by decide +kernel) ⟨Nat.le_of_ble_eq_true rfl, Nat.le_of_ble_eq_true rfl⟩) ⟨pPc_fb, pPc_go hC⟩ rfl rfl hl.1 rfl (lv_room (Nat.le_of_ble_eq_true rfl)) dX11_isRule_3 ⟨Nat.le_of_ble_eq_true rfl, Nat.le_of_ble_eq_true rfl⟩) hS (fun r1 locs hw_r1 hS => ?_)
  refine lv_if_ne (tgt := 11) hx hb dX11_isRule_6 (by decide) (fun c_6 => ?_) (fun c_6 => ?_)
  · have f_6 := bi_n hw_r1 c_6
    refine lv_iload_n hx hb dX11_isRule_11 rfl (lv_at hl 0 rfl) ?_
    refine lv_bipush (v := 116) hx hb dX11_isRule_12 (by decide) ?_
    refine lv_icmp_ne (tgt := 19) hx hb dX11_isRule_14 (by decide) (fun c_14 => ?_) (fun c_14 => ?_)
    · have g_14 : ¬ kd.toInt = 116 := fun q9 => c_14 (Int32.toInt_inj.mp q9)
      refine lv_iload_n hx hb dX11_isRule_19 rfl (lv_at hl 0 rfl) ?_
      refine lv_bipush (v := 99) hx hb dX11_isRule_20 (by decide) ?_
      refine lv_icmp_ne (tgt := 49) hx hb dX11_isRule_22 (by decide) (fun c_22 => ?_) (fun c_22 => ?_)
      · have g_22 : ¬ kd.toInt = 99 := fun q9 => c_22 (Int32.toInt_inj.mp q9)
        refine lv_iload_n hx hb dX11_isRule_49 rfl (lv_at hl 0 rfl) ?_
        refine lv_bipush (v := 115) hx hb dX11_isRule_50 (by decide) ?_
        refine lv_icmp_eq (tgt := 61) hx hb dX11_isRule_52 (by decide) (fun c_52 => ?_) (fun c_52 => ?_)
        · have g_52 : kd.toInt = 115 := congrArg Int32.toInt c_52
          refine lv_iload_n hx hb dX11_isRule_61 rfl (lv_at hl 2 rfl) ?_
          refine lv_bipush (v := 8) hx hb dX11_isRule_62 (by decide) ?_
          refine pz_i (va_runS (As := [.int y, .int 8]) (rest := []) ⟨hx, hb, hml, hown, hts⟩ (k_X11_isBelow l D k s.heap y 8) (va_cwS 2 hts gX11_isRule_X11_isBelow rfl rfl rfl (by decide +kernel) ⟨Nat.le_of_ble_eq_true rfl, Nat.le_of_ble_eq_true rfl⟩) ⟨pPc_fb, pPc_go hC⟩ rfl rfl hl.1 rfl (lv_room (Nat.le_of_ble_eq_true rfl)) dX11_isRule_64 ⟨Nat.le_of_ble_eq_true rfl, Nat.le_of_ble_eq_true rfl⟩) hS (fun r2 locs hw_r2 hS => ?_)
          refine lv_if_eq (tgt := 74) hx hb dX11_isRule_67 (by decide) (fun c_67 => ?_) (fun c_67 => ?_)
          · have f_67 := bi_z hw_r2 c_67
            refine lv_iconst (v := 0) hx hb dX11_isRule_74 (by decide) ?_
            exact W.zret (v := 0) (ty := .boolean) hx hb hr (rfl) (fun t ht hW => ⟨⟨0, (), rfl, bi_f (by omega), ht⟩, hS.F ht⟩) hS.2.2 dX11_isRule_75
          · have f_67 := bi_n hw_r2 c_67
            refine lv_iconst (v := 1) hx hb dX11_isRule_70 (by decide) ?_
            refine lv_goto (tgt := 75) hx hb dX11_isRule_71 (by decide) ?_
            exact W.zret (v := 1) (ty := .boolean) hx hb hr (rfl) (fun t ht hW => ⟨⟨1, (), rfl, bi_t (by omega), ht⟩, hS.F ht⟩) hS.2.2 dX11_isRule_75
        · have g_52 : ¬ kd.toInt = 115 := fun q9 => c_52 (Int32.toInt_inj.mp q9)
          refine lv_iload_n hx hb dX11_isRule_55 rfl (lv_at hl 0 rfl) ?_
          refine lv_bipush (v := 105) hx hb dX11_isRule_56 (by decide) ?_
          refine lv_icmp_ne (tgt := 74) hx hb dX11_isRule_58 (by decide) (fun c_58 => ?_) (fun c_58 => ?_)
          · have g_58 : ¬ kd.toInt = 105 := fun q9 => c_58 (Int32.toInt_inj.mp q9)
            refine lv_iconst (v := 0) hx hb dX11_isRule_74 (by decide) ?_
            exact W.zret (v := 0) (ty := .boolean) hx hb hr (rfl) (fun t ht hW => ⟨⟨0, (), rfl, bi_f (by omega), ht⟩, hS.F ht⟩) hS.2.2 dX11_isRule_75
          · have g_58 : kd.toInt = 105 := congrArg Int32.toInt c_58
            refine lv_iload_n hx hb dX11_isRule_61 rfl (lv_at hl 2 rfl) ?_
            refine lv_bipush (v := 8) hx hb dX11_isRule_62 (by decide) ?_
            refine pz_i (va_runS (As := [.int y, .int 8]) (rest := []) ⟨hx, hb, hml, hown, hts⟩ (k_X11_isBelow l D k s.heap y 8) (va_cwS 2 hts gX11_isRule_X11_isBelow rfl rfl rfl (by decide +kernel) ⟨Nat.le_of_ble_eq_true rfl, Nat.le_of_ble_eq_true rfl⟩) ⟨pPc_fb, pPc_go hC⟩ rfl rfl hl.1 rfl (lv_room (Nat.le_of_ble_eq_true rfl)) dX11_isRule_64 ⟨Nat.le_of_ble_eq_true rfl, Nat.le_of_ble_eq_true rfl⟩) hS (fun r3 locs hw_r3 hS => ?_)
            refine lv_if_eq (tgt := 74) hx hb dX11_isRule_67 (by decide) (fun c_67 => ?_) (fun c_67 => ?_)
            · have f_67 := bi_z hw_r3 c_67
              refine lv_iconst (v := 0) hx hb dX11_isRule_74 (by decide) ?_
              exact W.zret (v := 0) (ty := .boolean) hx hb hr (rfl) (fun t ht hW => ⟨⟨0, (), rfl, bi_f (by omega), ht⟩, hS.F ht⟩) hS.2.2 dX11_isRule_75
            · have f_67 := bi_n hw_r3 c_67
              refine lv_iconst (v := 1) hx hb dX11_isRule_70 (by decide) ?_
              refine lv_goto (tgt := 75) hx hb dX11_isRule_71 (by decide) ?_
              exact W.zret (v := 1) (ty := .boolean) hx hb hr (rfl) (fun t ht hW => ⟨⟨1, (), rfl, bi_t (by omega), ht⟩, hS.F ht⟩) hS.2.2 dX11_isRule_75
      · have g_22 : kd.toInt = 99 := congrArg Int32.toInt c_22
        refine lv_iload_n hx hb dX11_isRule_25 rfl (lv_at hl 2 rfl) ?_
        refine lv_bipush (v := 8) hx hb dX11_isRule_26 (by decide) ?_
        refine pz_i (va_runS (As := [.int y, .int 8]) (rest := []) ⟨hx, hb, hml, hown, hts⟩ (k_X11_isBelow l D k s.heap y 8) (va_cwS 2 hts gX11_isRule_X11_isBelow rfl rfl rfl (by decide +kernel) ⟨Nat.le_of_ble_eq_true rfl, Nat.le_of_ble_eq_true rfl⟩) ⟨pPc_fb, pPc_go hC⟩ rfl rfl hl.1 rfl (lv_room (Nat.le_of_ble_eq_true rfl)) dX11_isRule_28 ⟨Nat.le_of_ble_eq_true rfl, Nat.le_of_ble_eq_true rfl⟩) hS (fun r4 locs hw_r4 hS => ?_)
        refine lv_if_eq (tgt := 47) hx hb dX11_isRule_31 (by decide) (fun c_31 => ?_) (fun c_31 => ?_)
        · have f_31 := bi_z hw_r4 c_31
          refine lv_iconst (v := 0) hx hb dX11_isRule_47 (by decide) ?_
          exact W.zret (v := 0) (ty := .boolean) hx hb hr (rfl) (fun t ht hW => ⟨⟨0, (), rfl, bi_f (by omega), ht⟩, hS.F ht⟩) hS.2.2 dX11_isRule_48
        · have f_31 := bi_n hw_r4 c_31
          refine lv_iload_n hx hb dX11_isRule_34 rfl (lv_at hl 3 rfl) ?_
          refine lv_bipush (v := 8) hx hb dX11_isRule_35 (by decide) ?_
          refine pz_i (va_runS (As := [.int z, .int 8]) (rest := []) ⟨hx, hb, hml, hown, hts⟩ (k_X11_isBelow l D k s.heap z 8) (va_cwS 2 hts gX11_isRule_X11_isBelow rfl rfl rfl (by decide +kernel) ⟨Nat.le_of_ble_eq_true rfl, Nat.le_of_ble_eq_true rfl⟩) ⟨pPc_fb, pPc_go hC⟩ rfl rfl hl.1 rfl (lv_room (Nat.le_of_ble_eq_true rfl)) dX11_isRule_37 ⟨Nat.le_of_ble_eq_true rfl, Nat.le_of_ble_eq_true rfl⟩) hS (fun r5 locs hw_r5 hS => ?_)
          refine lv_if_eq (tgt := 47) hx hb dX11_isRule_40 (by decide) (fun c_40 => ?_) (fun c_40 => ?_)
          · have f_40 := bi_z hw_r5 c_40
            refine lv_iconst (v := 0) hx hb dX11_isRule_47 (by decide) ?_
            exact W.zret (v := 0) (ty := .boolean) hx hb hr (rfl) (fun t ht hW => ⟨⟨0, (), rfl, bi_f (by omega), ht⟩, hS.F ht⟩) hS.2.2 dX11_isRule_48
          · have f_40 := bi_n hw_r5 c_40
            refine lv_iconst (v := 1) hx hb dX11_isRule_43 (by decide) ?_
            refine lv_goto (tgt := 48) hx hb dX11_isRule_44 (by decide) ?_
            exact W.zret (v := 1) (ty := .boolean) hx hb hr (rfl) (fun t ht hW => ⟨⟨1, (), rfl, bi_t (by omega), ht⟩, hS.F ht⟩) hS.2.2 dX11_isRule_48
    · have g_14 : kd.toInt = 116 := congrArg Int32.toInt c_14
      refine lv_iconst (v := 1) hx hb dX11_isRule_17 (by decide) ?_
      exact W.zret (v := 1) (ty := .boolean) hx hb hr (rfl) (fun t ht hW => ⟨⟨1, (), rfl, bi_t (by omega), ht⟩, hS.F ht⟩) hS.2.2 dX11_isRule_18
  · have f_6 := bi_z hw_r1 c_6
    refine lv_iconst (v := 0) hx hb dX11_isRule_9 (by decide) ?_
    exact W.zret (v := 0) (ty := .boolean) hx hb hr (rfl) (fun t ht hW => ⟨⟨0, (), rfl, bi_f (by omega), ht⟩, hS.F ht⟩) hS.2.2 dX11_isRule_10

set_option maxHeartbeats 4000000 in
set_option maxRecDepth 100000 in
theorem k_X11_indexOf (l : Launch) (D : va_G) (k : Nat → ClassId) (h0 : Heap) (x y z : Int32) : Met l yX11_indexOf wsX11_indexOf ({ frames := 0, cells := 0, slots := 0, locals := 0 }) (pPc D k [.int x, .int y, .int z] h0) (va_Qi (fun r (_ : Unit) => (((0 ≤ x.toInt ∧ x.toInt < 8) ∧ (0 ≤ y.toInt ∧ y.toInt < 8) ∧ (0 ≤ z.toInt ∧ z.toInt < 12)) ∧ ∃ j : Nat, j < 768 ∧ r = nI j) ∨ (¬ ((0 ≤ x.toInt ∧ x.toInt < 8) ∧ (0 ≤ y.toInt ∧ y.toInt < 8) ∧ (0 ≤ z.toInt ∧ z.toInt < 12)) ∧ r = -1)) (fun _ t => t.heap = h0) (fun _ => False)) 0 0 (fun _ => False) := by
  refine Met.ofW (cc := cX11_indexOf) (maxL := 4) (ret := (some .int)) (by decide) rfl ?_
  intro p e s m args below meth c s₁ B hml hv
  obtain ⟨rfl, rfl, hC⟩ := hv
  have hx := B.exec
  have hb := B.bytes
  have hr := B.returns
  have hts := atoms_spec (ws := wsX11_indexOf) B.pre
  have hown : s.vm.findClass RX11 = some m.cls := findClass_of_methodNamed B.named
  have hlocks := B.notSynchronized
  have hS : va_S (fun _ => False) s.heap s.heap [] := va_S.rf
  refine w_entry (Nat.le_of_ble_eq_true rfl) (fun ls hl => ?_)
  have hl : lv_has ls 4 [(0, .int x), (1, .int y), (2, .int z)] := hl
  refine lv_iload_n hx hb dX11_indexOf_0 rfl (lv_at hl 0 rfl) ?_
  refine lv_if_lt (tgt := 34) hx hb dX11_indexOf_1 (by decide) (fun c_1 => ?_) (fun c_1 => ?_)
  · have g_1 : x.toInt < 0 := i32_lt c_1
    refine lv_iconst (v := 0) hx hb dX11_indexOf_34 (by decide) ?_
    refine lv_istore_n (lv' := [(3, .int 0), (0, .int x), (1, .int y), (2, .int z)]) hx hb dX11_indexOf_35 rfl hl (by decide) rfl (fun ls hl => ?_)
    refine lv_iload_n hx hb dX11_indexOf_36 rfl (lv_at hl 0 rfl) ?_
    refine lv_if_eq (tgt := 54) hx hb dX11_indexOf_37 (by decide) (fun c_37 => ?_) (fun c_37 => absurd (by decide) c_37)
    refine lv_iconst (v := (-1)) hx hb dX11_indexOf_54 (by decide) ?_
    exact W.iret (v := (-1)) hx hb hr (fun t ht hW => ⟨⟨(-1), (), rfl, Or.inr ⟨by omega, rfl⟩, ht⟩, hS.F ht⟩) hS.2.2 dX11_indexOf_55
  · have g_1 : 0 ≤ x.toInt := i32_nlt c_1
    refine lv_iload_n hx hb dX11_indexOf_4 rfl (lv_at hl 0 rfl) ?_
    refine lv_bipush (v := 8) hx hb dX11_indexOf_5 (by decide) ?_
    refine lv_icmp_ge (tgt := 34) hx hb dX11_indexOf_7 (by decide) (fun c_7 => ?_) (fun c_7 => ?_)
    · have g_7 : 8 ≤ x.toInt := i32_le c_7
      refine lv_iconst (v := 0) hx hb dX11_indexOf_34 (by decide) ?_
      refine lv_istore_n (lv' := [(3, .int 0), (0, .int x), (1, .int y), (2, .int z)]) hx hb dX11_indexOf_35 rfl hl (by decide) rfl (fun ls hl => ?_)
      refine lv_iload_n hx hb dX11_indexOf_36 rfl (lv_at hl 0 rfl) ?_
      refine lv_if_eq (tgt := 54) hx hb dX11_indexOf_37 (by decide) (fun c_37 => ?_) (fun c_37 => absurd (by decide) c_37)
      refine lv_iconst (v := (-1)) hx hb dX11_indexOf_54 (by decide) ?_
      exact W.iret (v := (-1)) hx hb hr (fun t ht hW => ⟨⟨(-1), (), rfl, Or.inr ⟨by omega, rfl⟩, ht⟩, hS.F ht⟩) hS.2.2 dX11_indexOf_55
    · have g_7 : x.toInt < 8 := i32_nle c_7
      refine lv_iload_n hx hb dX11_indexOf_10 rfl (lv_at hl 1 rfl) ?_
      refine lv_if_lt (tgt := 34) hx hb dX11_indexOf_11 (by decide) (fun c_11 => ?_) (fun c_11 => ?_)
      · have g_11 : y.toInt < 0 := i32_lt c_11
        refine lv_iconst (v := 0) hx hb dX11_indexOf_34 (by decide) ?_
        refine lv_istore_n (lv' := [(3, .int 0), (0, .int x), (1, .int y), (2, .int z)]) hx hb dX11_indexOf_35 rfl hl (by decide) rfl (fun ls hl => ?_)
        refine lv_iload_n hx hb dX11_indexOf_36 rfl (lv_at hl 0 rfl) ?_
        refine lv_if_eq (tgt := 54) hx hb dX11_indexOf_37 (by decide) (fun c_37 => ?_) (fun c_37 => absurd (by decide) c_37)
        refine lv_iconst (v := (-1)) hx hb dX11_indexOf_54 (by decide) ?_
        exact W.iret (v := (-1)) hx hb hr (fun t ht hW => ⟨⟨(-1), (), rfl, Or.inr ⟨by omega, rfl⟩, ht⟩, hS.F ht⟩) hS.2.2 dX11_indexOf_55
      · have g_11 : 0 ≤ y.toInt := i32_nlt c_11
        refine lv_iload_n hx hb dX11_indexOf_14 rfl (lv_at hl 1 rfl) ?_
        refine lv_bipush (v := 8) hx hb dX11_indexOf_15 (by decide) ?_
        refine lv_icmp_ge (tgt := 34) hx hb dX11_indexOf_17 (by decide) (fun c_17 => ?_) (fun c_17 => ?_)
        · have g_17 : 8 ≤ y.toInt := i32_le c_17
          refine lv_iconst (v := 0) hx hb dX11_indexOf_34 (by decide) ?_
          refine lv_istore_n (lv' := [(3, .int 0), (0, .int x), (1, .int y), (2, .int z)]) hx hb dX11_indexOf_35 rfl hl (by decide) rfl (fun ls hl => ?_)
          refine lv_iload_n hx hb dX11_indexOf_36 rfl (lv_at hl 0 rfl) ?_
          refine lv_if_eq (tgt := 54) hx hb dX11_indexOf_37 (by decide) (fun c_37 => ?_) (fun c_37 => absurd (by decide) c_37)
          refine lv_iconst (v := (-1)) hx hb dX11_indexOf_54 (by decide) ?_
          exact W.iret (v := (-1)) hx hb hr (fun t ht hW => ⟨⟨(-1), (), rfl, Or.inr ⟨by omega, rfl⟩, ht⟩, hS.F ht⟩) hS.2.2 dX11_indexOf_55
        · have g_17 : y.toInt < 8 := i32_nle c_17
          refine lv_iload_n hx hb dX11_indexOf_20 rfl (lv_at hl 2 rfl) ?_
          refine lv_if_lt (tgt := 34) hx hb dX11_indexOf_21 (by decide) (fun c_21 => ?_) (fun c_21 => ?_)
          · have g_21 : z.toInt < 0 := i32_lt c_21
            refine lv_iconst (v := 0) hx hb dX11_indexOf_34 (by decide) ?_
            refine lv_istore_n (lv' := [(3, .int 0), (0, .int x), (1, .int y), (2, .int z)]) hx hb dX11_indexOf_35 rfl hl (by decide) rfl (fun ls hl => ?_)
            refine lv_iload_n hx hb dX11_indexOf_36 rfl (lv_at hl 0 rfl) ?_
            refine lv_if_eq (tgt := 54) hx hb dX11_indexOf_37 (by decide) (fun c_37 => ?_) (fun c_37 => absurd (by decide) c_37)
            refine lv_iconst (v := (-1)) hx hb dX11_indexOf_54 (by decide) ?_
            exact W.iret (v := (-1)) hx hb hr (fun t ht hW => ⟨⟨(-1), (), rfl, Or.inr ⟨by omega, rfl⟩, ht⟩, hS.F ht⟩) hS.2.2 dX11_indexOf_55
          · have g_21 : 0 ≤ z.toInt := i32_nlt c_21
            refine lv_iload_n hx hb dX11_indexOf_24 rfl (lv_at hl 2 rfl) ?_
            refine lv_bipush (v := 12) hx hb dX11_indexOf_25 (by decide) ?_
            refine lv_icmp_ge (tgt := 34) hx hb dX11_indexOf_27 (by decide) (fun c_27 => ?_) (fun c_27 => ?_)
            · have g_27 : 12 ≤ z.toInt := i32_le c_27
              refine lv_iconst (v := 0) hx hb dX11_indexOf_34 (by decide) ?_
              refine lv_istore_n (lv' := [(3, .int 0), (0, .int x), (1, .int y), (2, .int z)]) hx hb dX11_indexOf_35 rfl hl (by decide) rfl (fun ls hl => ?_)
              refine lv_iload_n hx hb dX11_indexOf_36 rfl (lv_at hl 0 rfl) ?_
              refine lv_if_eq (tgt := 54) hx hb dX11_indexOf_37 (by decide) (fun c_37 => ?_) (fun c_37 => absurd (by decide) c_37)
              refine lv_iconst (v := (-1)) hx hb dX11_indexOf_54 (by decide) ?_
              exact W.iret (v := (-1)) hx hb hr (fun t ht hW => ⟨⟨(-1), (), rfl, Or.inr ⟨by omega, rfl⟩, ht⟩, hS.F ht⟩) hS.2.2 dX11_indexOf_55
            · have g_27 : z.toInt < 12 := i32_nle c_27
              refine lv_iconst (v := 1) hx hb dX11_indexOf_30 (by decide) ?_
              refine lv_goto (tgt := 35) hx hb dX11_indexOf_31 (by decide) ?_
              refine lv_istore_n (lv' := [(3, .int 1), (0, .int x), (1, .int y), (2, .int z)]) hx hb dX11_indexOf_35 rfl hl (by decide) rfl (fun ls hl => ?_)
              refine lv_iload_n hx hb dX11_indexOf_36 rfl (lv_at hl 0 rfl) ?_
              refine lv_if_eq (tgt := 54) hx hb dX11_indexOf_37 (by decide) (fun c_37 => absurd c_37 (by decide)) (fun c_37 => ?_)
              refine lv_iload_n hx hb dX11_indexOf_40 rfl (lv_at hl 1 rfl) ?_
              refine lv_bipush (v := 8) hx hb dX11_indexOf_41 (by decide) ?_
              refine lv_imul hx hb dX11_indexOf_43 ?_
              refine w_top (y := x * 8) (rfl) ?_
              refine lv_iload_n hx hb dX11_indexOf_44 rfl (lv_at hl 2 rfl) ?_
              refine lv_iadd hx hb dX11_indexOf_45 ?_
              refine w_top (y := (x * 8) + y) (rfl) ?_
              refine lv_bipush (v := 12) hx hb dX11_indexOf_46 (by decide) ?_
              refine lv_imul hx hb dX11_indexOf_48 ?_
              refine w_top (y := ((x * 8) + y) * 12) (rfl) ?_
              refine lv_iload_n hx hb dX11_indexOf_49 rfl (lv_at hl 3 rfl) ?_
              refine lv_iadd hx hb dX11_indexOf_50 ?_
              refine w_top (y := (((x * 8) + y) * 12) + z) (rfl) ?_
              refine lv_goto (tgt := 55) hx hb dX11_indexOf_51 (by decide) ?_
              exact W.iret (v := (((x * 8) + y) * 12) + z) hx hb hr (fun t ht hW => ⟨⟨(((x * 8) + y) * 12) + z, (), rfl, Or.inl ⟨by omega, i32_cell (by omega) (by omega) (by omega)⟩, ht⟩, hS.F ht⟩) hS.2.2 dX11_indexOf_55

set_option maxHeartbeats 4000000 in
set_option maxRecDepth 100000 in
theorem thr_X11_askedTriple_78 : ∀ w ∈ (vx_at0 RX11 78 "java/lang/IllegalArgumentException" ["java/lang/RuntimeException", "java/lang/Exception"]).filter goodWord, w ∈ wsX11_askedTriple := by decide +kernel

set_option maxHeartbeats 4000000 in
set_option maxRecDepth 100000 in
theorem k_X11_askedTriple (l : Launch) (hst : l.stackTraces = false) (D : va_G) (k : Nat → ClassId) (e0 : Nat) (h0 : Heap) (g n x y z : Int32) : vx_Met l yX11_askedTriple wsX11_askedTriple ({ frames := 6, cells := 1, slots := 6, locals := 130 }) (tPc D k e0 [.int g, .int n, .int x, .int y, .int z] h0) (va_Qi (fun r (u : Unit) => ((0 ≤ g.toInt ∧ g.toInt < n.toInt) ∧ ((0 ≤ x.toInt ∧ x.toInt < 8) ∧ (0 ≤ y.toInt ∧ y.toInt < 8) ∧ (0 ≤ z.toInt ∧ z.toInt < 12))) ∧ ∃ j : Nat, j < 768 ∧ r = nI j) (fun _ t => t.heap = h0) (fun _ => False)) (vx_X (fun (_ : Unit) => ¬ ((0 ≤ g.toInt ∧ g.toInt < n.toInt) ∧ ((0 ≤ x.toInt ∧ x.toInt < 8) ∧ (0 ≤ y.toInt ∧ y.toInt < 8) ∧ (0 ≤ z.toInt ∧ z.toInt < 12)))) (fun E _ _ => E = "java/lang/IllegalArgumentException") (fun q => h0.size ≤ q)) 1 6 (fun q => h0.size ≤ q) := by
  refine vx_ofW (cc := cX11_askedTriple) (maxL := 6) (ret := (some .int)) (by decide) rfl ?_
  intro p e s m args below meth c s₁ B hml hout hv
  obtain ⟨rfl, rfl, hC, hHf⟩ := hv
  have hx := B.exec
  have hb := B.bytes
  have hr := B.returns
  have hts := atoms_spec (ws := wsX11_askedTriple) B.pre
  have hown : s.vm.findClass RX11 = some m.cls := findClass_of_methodNamed B.named
  have hlocks := B.notSynchronized
  have hA : ∀ q : Nat, s.heap.size ≤ q → (fun q => s.heap.size ≤ q) q := fun _ h => h
  generalize hAe : (fun q : Nat => s.heap.size ≤ q) = A at hA hHf ⊢
  have hS : va_S A s.heap s.heap [] := va_S.rf
  refine w_entry (Nat.le_of_ble_eq_true rfl) (fun ls hl => ?_)
  have hl : lv_has ls 6 [(0, .int g), (1, .int n), (2, .int x), (3, .int y), (4, .int z)] := hl
  refine lv_iload_n hx hb dX11_askedTriple_0 rfl (lv_at hl 2 rfl) ?_
  refine lv_iload_n hx hb dX11_askedTriple_1 rfl (lv_at hl 3 rfl) ?_
  refine lv_iload hx hb dX11_askedTriple_2 (lv_at hl 4 rfl) ?_
  refine pz_i (va_runS (As := [.int x, .int y, .int z]) (rest := []) ⟨hx, hb, hml, hown, hts⟩ (k_X11_indexOf l D k s.heap x y z) (va_cwS 3 hts gX11_askedTriple_X11_indexOf rfl rfl rfl (by decide +kernel) ⟨Nat.le_of_ble_eq_true rfl, Nat.le_of_ble_eq_true rfl⟩) ⟨pPc_fb, pPc_go hC⟩ rfl rfl hl.1 rfl (lv_room (Nat.le_of_ble_eq_true rfl)) dX11_askedTriple_4 ⟨Nat.le_of_ble_eq_true rfl, Nat.le_of_ble_eq_true rfl⟩) hS (fun r1 locs hw_r1 hS => ?_)
  refine lv_istore (lv' := [(5, .int r1), (0, .int g), (1, .int n), (2, .int x), (3, .int y), (4, .int z)]) hx hb dX11_askedTriple_7 hl (by decide) rfl (fun ls hl => ?_)
  refine lv_iload_n hx hb dX11_askedTriple_9 rfl (lv_at hl 1 rfl) ?_
  refine lv_iload_n hx hb dX11_askedTriple_10 rfl (lv_at hl 2 rfl) ?_
  refine pz_i (va_runS (As := [.int g, .int n]) (rest := []) ⟨hx, hb, hml, hown, hts⟩ (k_X11_isBelow l D k s.heap g n) (va_cwS 2 hts gX11_askedTriple_X11_isBelow rfl rfl rfl (by decide +kernel) ⟨Nat.le_of_ble_eq_true rfl, Nat.le_of_ble_eq_true rfl⟩) ⟨pPc_fb, pPc_go hC⟩ rfl rfl hl.1 rfl (lv_room (Nat.le_of_ble_eq_true rfl)) dX11_askedTriple_11 ⟨Nat.le_of_ble_eq_true rfl, Nat.le_of_ble_eq_true rfl⟩) hS (fun r2 locs hw_r2 hS => ?_)
  refine lv_if_eq (tgt := 22) hx hb dX11_askedTriple_14 (by decide) (fun c_14 => ?_) (fun c_14 => ?_)
  · have f_14 := bi_z hw_r2 c_14
    refine vx_throw0 (names := ["java/lang/RuntimeException", "java/lang/Exception"]) (A := A) hx hb hst hown (by decide +kernel) (by decide +kernel) (hts (.classLink RX11 76 "java/lang/IllegalArgumentException") (by decide +kernel)) (hts (.initialized "java/lang/IllegalArgumentException") (by decide +kernel)) (vx_hat (B := [.declares (Bundle.init0 "java/lang/RuntimeException"), .declares (Bundle.init0 "java/lang/Exception"), .declares (Bundle.init0 "java/lang/Throwable"), .castable "java/lang/IllegalArgumentException" "java/lang/IllegalArgumentException"]) (fun w h9 => hts w (thr_X11_askedTriple_78 w h9)) (by decide +kernel) (vx_c (hC.2.2.2.2.1.1.use rfl) (vx_c (hC.2.2.2.2.1.2.1.use rfl) (vx_c (hC.2.2.2.2.1.2.2.use rfl) (vx_c (hC.2.2.2.2.2.1.use rfl) vx_n))))) (by decide +kernel) hHf.1 hHf.2.1 hS (hl.1.trans hml.symm) dX11_askedTriple_22 dX11_askedTriple_25 dX11_askedTriple_26 dX11_askedTriple_29 (fun x9 h9 => (hout x9 h9).elim) (Nat.le_of_ble_eq_true rfl) (Nat.le_of_ble_eq_true rfl) (Nat.le_of_ble_eq_true rfl) (Nat.le_of_ble_eq_true rfl) hlocks (fun t ht h1 h2 => ⟨(), fun q9 => f_14 q9.1, rfl, w_xF hS h1 h2⟩) hS.2.2 (Nat.le_of_ble_eq_true rfl) (Nat.le_of_ble_eq_true rfl)
  · have f_14 := bi_n hw_r2 c_14
    refine lv_iload hx hb dX11_askedTriple_17 (lv_at hl 0 rfl) ?_
    refine lv_if_ge (tgt := 30) hx hb dX11_askedTriple_19 (by decide) (fun c_19 => ?_) (fun c_19 => ?_)
    · have g_19 : 0 ≤ r1.toInt := i32_le c_19
      refine lv_iload hx hb dX11_askedTriple_30 (lv_at hl 0 rfl) ?_
      refine W.widen (k := 1) (n := 6) (Nat.le_of_ble_eq_true rfl) (Nat.le_of_ble_eq_true rfl) ?_
      refine vx_ret ?_
      exact W.iret (v := r1) hx hb hr (fun t ht hW => ⟨⟨r1, (), rfl, (by rcases hw_r1 with ⟨z1, z2⟩ | ⟨z1, z2⟩; exact ⟨⟨f_14, z1⟩, z2⟩; rw [z2] at g_19; exact absurd g_19 (by decide)), ht⟩, ⟨Nat.le_of_eq (by rw [ht]), fun q9 _ _ => by rw [ht]⟩⟩) hS.2.2 dX11_askedTriple_32
    · have g_19 : r1.toInt < 0 := i32_nle c_19
      refine vx_throw0 (names := ["java/lang/RuntimeException", "java/lang/Exception"]) (A := A) hx hb hst hown (by decide +kernel) (by decide +kernel) (hts (.classLink RX11 76 "java/lang/IllegalArgumentException") (by decide +kernel)) (hts (.initialized "java/lang/IllegalArgumentException") (by decide +kernel)) (vx_hat (B := [.declares (Bundle.init0 "java/lang/RuntimeException"), .declares (Bundle.init0 "java/lang/Exception"), .declares (Bundle.init0 "java/lang/Throwable"), .castable "java/lang/IllegalArgumentException" "java/lang/IllegalArgumentException"]) (fun w h9 => hts w (thr_X11_askedTriple_78 w h9)) (by decide +kernel) (vx_c (hC.2.2.2.2.1.1.use rfl) (vx_c (hC.2.2.2.2.1.2.1.use rfl) (vx_c (hC.2.2.2.2.1.2.2.use rfl) (vx_c (hC.2.2.2.2.2.1.use rfl) vx_n))))) (by decide +kernel) hHf.1 hHf.2.1 hS (hl.1.trans hml.symm) dX11_askedTriple_22 dX11_askedTriple_25 dX11_askedTriple_26 dX11_askedTriple_29 (fun x9 h9 => (hout x9 h9).elim) (Nat.le_of_ble_eq_true rfl) (Nat.le_of_ble_eq_true rfl) (Nat.le_of_ble_eq_true rfl) (Nat.le_of_ble_eq_true rfl) hlocks (fun t ht h1 h2 => ⟨(), fun q9 => by rcases hw_r1 with ⟨z1, j, hj, z2⟩ | ⟨z1, z2⟩; rw [z2, nI_toInt (by omega)] at g_19; omega; exact z1 q9.2, rfl, w_xF hS h1 h2⟩) hS.2.2 (Nat.le_of_ble_eq_true rfl) (Nat.le_of_ble_eq_true rfl)

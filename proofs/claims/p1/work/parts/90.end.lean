/-- the kinds of array, out of the tables' words -/
theorem w_arrP {s : State} {args : Array Value} {t : FieldType} (h : (Cond.arrayClass t).before args s = true) (ho : ∀ C, t ≠ .object C) : ∃ c : ClassId, ArrOfT s c t ∧ va_RA s c t := by
  obtain ⟨c, k, comp, h1, h2, h3⟩ := Cond.arrayClass_spec h
  refine ⟨c, fun N z => ⟨(fun q hq => by cases hq), k, h2, comp, h3⟩, ?_⟩
  cases t with
  | object C => exact absurd rfl (ho C)
  | _ => exact h1
theorem w_arrO {s : State} {C : String} (h : va_AO C s) : ∃ c : ClassId, ArrOfT s c (.object C) ∧ va_RA s c (.object C) := by
  obtain ⟨comp, c, k, h1, h2, h3, h4, h5⟩ := Cond.arrayOver_spec (show (Cond.arrayOver (.object C)).holds #[] s none s [] = true from h)
  exact ⟨c, fun N z => ⟨(fun q hq => by cases hq), k, h3, comp, h4⟩, k, comp, h3, h4, h1, h5⟩
theorem w_arrA {s : State} {t : FieldType} (h : va_AOA t s) : ∃ c : ClassId, ArrOfT s c (.array t) ∧ va_RA s c (.array t) := by
  obtain ⟨comp, c, k, h1, h2, h3, h4, h5⟩ := arrayOverA_spec (show (Cond.arrayOver (.array t)).holds #[] s none s [] = true from h)
  exact ⟨c, fun N z => ⟨(fun q hq => by cases hq), k, h3, comp, h4⟩, h5⟩

set_option maxHeartbeats 4000000 in
set_option maxRecDepth 100000 in
/-- from the entry, for every script of at most 6 ints -/
theorem whole_start {p : Program} {e : Env} {s : State} {m : MethodId} {below : List Frame} {meth : Method} {c : Code} (l : Launch) (hflags : l.flags = flags0) {b L : Nat} {xs : Nat → Int32} (hL : L ≤ 6) (C0 : lw_At p s m meth c b L xs) : W p l e room_1 s m #[Value.ref b] below meth c s.heap [] 0 0 (lw_Z below #[Value.ref b] s) (entryFrame m ([Value.ref b] : List Value).toArray 9) := by
  have hst : l.stackTraces = false := by unfold Launch.stackTraces; rw [hflags]; decide +kernel
  obtain ⟨hx, hb, hr, hml, hown, hts0, hX, hbl, hlocks, hgv⟩ := C0
  have hts : ∀ w ∈ wsL_law, w.before #[Value.ref b] s = true := fun w h => hts0 w (wsL_law_in w h)
  have hs := flat_of_before _ hgv
  obtain ⟨A, hA, hAs⟩ : ∃ A : Nat → Prop, (∀ q, s.heap.size ≤ q → A q) ∧ (∀ q, A q → s.heap.size ≤ q) := ⟨fun q => s.heap.size ≤ q, fun _ h => h, fun _ h => h⟩
  have hbA : ¬ A b := fun h9 => absurd (hAs b h9) (Nat.not_le.mpr hbl)
  have hAn : ∀ a : Nat, a < s.heap.size → ¬ A a := fun a h1 h2 => absurd (hAs a h2) (Nat.not_le.mpr h1)
  obtain ⟨c0, i0, hK0⟩ := u_known (C := RJ0) (T := TJ0) (N := 2) (n := 4) hts0 inJ0 (hts0 (.instantiable RJ0 4) (by decide +kernel))
  obtain ⟨c1, i1, hK1⟩ := u_known (C := RJx00060) (T := TJx00060) (N := 6) (n := 6) hts0 inJx00060 (hts0 (.instantiable RJx00060 6) (by decide +kernel))
  obtain ⟨c2, i2, hK2⟩ := u_known (C := RJx4a65c) (T := TJx4a65c) (N := 3) (n := 3) hts0 inJx4a65c (hts0 (.instantiable RJx4a65c 3) (by decide +kernel))
  obtain ⟨c3, i3, hK3⟩ := u_known (C := RX0) (T := TX0) (N := 6) (n := 6) hts0 inX0 (hts0 (.instantiable RX0 6) (by decide +kernel))
  obtain ⟨c4, i4, hK4⟩ := u_known (C := RX1) (T := TX1) (N := 5) (n := 5) hts0 inX1 (hts0 (.instantiable RX1 5) (by decide +kernel))
  obtain ⟨c5, i5, hK5⟩ := u_known (C := RX2) (T := TX2) (N := 6) (n := 6) hts0 inX2 (hts0 (.instantiable RX2 6) (by decide +kernel))
  obtain ⟨c6, i6, hK6⟩ := u_known (C := RX3) (T := TX3) (N := 8) (n := 8) hts0 inX3 (hts0 (.instantiable RX3 8) (by decide +kernel))
  obtain ⟨c7, i7, hK7⟩ := u_known (C := RX4) (T := TX4) (N := 6) (n := 6) hts0 inX4 (hts0 (.instantiable RX4 6) (by decide +kernel))
  obtain ⟨c8, i8, hK8⟩ := u_known (C := RX5) (T := TX5) (N := 3) (n := 3) hts0 inX5 (hts0 (.instantiable RX5 3) (by decide +kernel))
  obtain ⟨c9, i9, hK9⟩ := u_known (C := RX8) (T := TX8) (N := 4) (n := 4) hts0 inX8 (hts0 (.instantiable RX8 4) (by decide +kernel))
  obtain ⟨c10, i10, hK10⟩ := u_known (C := RX9) (T := TX9) (N := 5) (n := 5) hts0 inX9 (hts0 (.instantiable RX9 5) (by decide +kernel))
  obtain ⟨c11, i11, hK11⟩ := u_known (C := RX10) (T := TX10) (N := 3) (n := 3) hts0 inX10 (hts0 (.instantiable RX10 3) (by decide +kernel))
  obtain ⟨c12, i12, hK12⟩ := u_known (C := RX11) (T := TX11) (N := 9) (n := 9) hts0 inX11 (hts0 (.instantiable RX11 9) (by decide +kernel))
  obtain ⟨c13, i13, hK13⟩ := u_known (C := RX12) (T := TX12) (N := 11) (n := 11) hts0 inX12 (hts0 (.instantiable RX12 11) (by decide +kernel))
  have o1 : va_AO "Triplegarth$Graph" s := va_AO.of (hts0 (.arrayOver (.object "Triplegarth$Graph")) (by decide +kernel))
  have o2 : va_AO "java/lang/Object" s := va_AO.of (hts0 (.arrayOver (.object "java/lang/Object")) (by decide +kernel))
  have o3 : va_AOA .boolean s := (show (Cond.arrayOver (.array .boolean)).before #[Value.ref b] s = true from hts0 (.arrayOver (.array .boolean)) (by decide +kernel))
  have o4 : va_AOA .int s := (show (Cond.arrayOver (.array .int)).before #[Value.ref b] s = true from hts0 (.arrayOver (.array .int)) (by decide +kernel))
  have o5 : va_AOA .long s := (show (Cond.arrayOver (.array .long)).before #[Value.ref b] s = true from hts0 (.arrayOver (.array .long)) (by decide +kernel))
  obtain ⟨k0, a0⟩ := w_arrP (hts0 (.arrayClass .boolean) (by decide +kernel)) (fun C h => by cases h)
  obtain ⟨k1, a1⟩ := w_arrP (hts0 (.arrayClass .long) (by decide +kernel)) (fun C h => by cases h)
  obtain ⟨k2, a2⟩ := w_arrP (hts0 (.arrayClass .int) (by decide +kernel)) (fun C h => by cases h)
  obtain ⟨k8, a8⟩ := w_arrP (hts0 (.arrayClass .double) (by decide +kernel)) (fun C h => by cases h)
  obtain ⟨k3, a3⟩ := w_arrO o1
  obtain ⟨k4, a4⟩ := w_arrO o2
  obtain ⟨k5, a5⟩ := w_arrA o3
  obtain ⟨k6, a6⟩ := w_arrA o4
  obtain ⟨k7, a7⟩ := w_arrA o5
  obtain ⟨k, ek⟩ : ∃ k : Nat → ClassId, k = (fun j => [k0, k1, k2, k3, k4, k5, k6, k7, k8].getD j k0) := ⟨_, rfl⟩
  obtain ⟨D, hKD⟩ : ∃ D : va_G, va_K D vwCl (TY k) s := by
    subst ek
    refine ⟨(fun j => [c0, c1, c2, c3, c4, c5, c6, c7, c8, c9, c10, c11, c12, c13].getD j c0, fun j => [i0, i1, i2, i3, i4, i5, i6, i7, i8, i9, i10, i11, i12, i13].getD j i0), ?_, ?_⟩
    · intro j q hq
      match j, hq with
      | 0, hq => cases hq; exact hK0
      | 1, hq => cases hq; exact hK1
      | 2, hq => cases hq; exact hK2
      | 3, hq => cases hq; exact hK3
      | 4, hq => cases hq; exact hK4
      | 5, hq => cases hq; exact hK5
      | 6, hq => cases hq; exact hK6
      | 7, hq => cases hq; exact hK7
      | 8, hq => cases hq; exact hK8
      | 9, hq => cases hq; exact hK9
      | 10, hq => cases hq; exact hK10
      | 11, hq => cases hq; exact hK11
      | 12, hq => cases hq; exact hK12
      | 13, hq => cases hq; exact hK13
      | j + 14, hq => simp [vwCl] at hq
    · intro j q hq
      match j, hq with
      | 0, hq => cases hq; exact a0
      | 1, hq => cases hq; exact a1
      | 2, hq => cases hq; exact a2
      | 3, hq => cases hq; exact a3
      | 4, hq => cases hq; exact a4
      | 5, hq => cases hq; exact a5
      | 6, hq => cases hq; exact a6
      | 7, hq => cases hq; exact a7
      | 8, hq => cases hq; exact a8
      | j + 9, hq => simp [TY] at hq
  have hC : wCx D k s := ⟨hKD, ⟨va_Nw.of rfl (hts0 (.methodLinkNest RX11 49 yX1_init RX11) (by decide +kernel)), va_Nw.of rfl (hts0 (.methodLinkNest RX1 17 yX5_init RX11) (by decide +kernel)), va_Nw.of rfl (hts0 (.methodLinkNest RX1 33 yX11_isBelow RX11) (by decide +kernel)), va_Nw.of rfl (hts0 (.methodLinkNest RX5 28 yX11_isBelow RX11) (by decide +kernel)), va_Nw.of rfl (hts0 (.methodLinkNest RX4 3 yX6_init RX11) (by decide +kernel)), va_Nw.of rfl (hts0 (.methodLinkNest RX3 3 yX6_init RX11) (by decide +kernel))⟩, ⟨o1, o2, o3, o4, o5⟩, ⟨va_Nw.of rfl (hts0 (.castable RX8 "java/lang/Object") (by decide +kernel)), va_Nw.of rfl (hts0 (.castable RX4 "java/lang/Object") (by decide +kernel)), va_Nw.of rfl (hts0 (.castable RX3 "java/lang/Object") (by decide +kernel)), va_Nw.of rfl (hts0 (.castable RX9 "java/lang/Object") (by decide +kernel))⟩, ⟨va_Nw.of rfl (hts0 (.declares (Bundle.init0 "java/lang/RuntimeException")) (by decide +kernel)), va_Nw.of rfl (hts0 (.declares (Bundle.init0 "java/lang/Exception")) (by decide +kernel)), va_Nw.of rfl (hts0 (.declares (Bundle.init0 "java/lang/Throwable")) (by decide +kernel))⟩, va_Nw.of rfl (hts0 (.castable "java/lang/IllegalArgumentException" "java/lang/IllegalArgumentException") (by decide +kernel)), va_Nw.of rfl (hts0 (.castable "java/lang/IllegalStateException" "java/lang/IllegalStateException") (by decide +kernel)), va_Nw.of rfl (hts0 (.castable "java/util/NoSuchElementException" "java/util/NoSuchElementException") (by decide +kernel)), va_Nw.of rfl (hts0 (.castable "java/lang/IndexOutOfBoundsException" "java/lang/IndexOutOfBoundsException") (by decide +kernel)), va_Nw.of rfl (hts0 (.castable "java/lang/ArithmeticException" "java/lang/ArithmeticException") (by decide +kernel))⟩
  obtain ⟨e0, he0, hT0⟩ := va_Tof (tm := .static "java/util/ArrayList" "DEFAULTCAPACITY_EMPTY_ELEMENTDATA" "[Ljava/lang/Object;") (ty := .object "java/lang/Object") (N := 0) (f := fun _ => .null) (A := A) (by decide) (hs (.arrayOf (.static "java/util/ArrayList" "DEFAULTCAPACITY_EMPTY_ELEMENTDATA" "[Ljava/lang/Object;") (.object "java/lang/Object")) (by decide +kernel)) (va_eqt (z := 0) (hs (.eq (.length (.static "java/util/ArrayList" "DEFAULTCAPACITY_EMPTY_ELEMENTDATA" "[Ljava/lang/Object;")) (.int 0)) (by decide +kernel))) (fun j h9 => absurd h9 (Nat.not_lt_zero j)) hAn
  have hHf : wHf e0 A s s.heap := ⟨vx_Zqof (hts0 (.laysStatic Bundle.tN "UNASSIGNED_STACK" Bundle.steD) (by decide +kernel)) (hts0 (.initialized Bundle.tN) (by decide +kernel)) (hs (.isRef (.static Bundle.tN "UNASSIGNED_STACK" Bundle.steD)) (by decide +kernel)) hAn, vx_Zqof (hts0 (.laysStatic Bundle.tN "SUPPRESSED_SENTINEL" Bundle.listD) (by decide +kernel)) (hts0 (.initialized Bundle.tN) (by decide +kernel)) (hs (.isRef (.static Bundle.tN "SUPPRESSED_SENTINEL" Bundle.listD)) (by decide +kernel)) hAn, va_Zref (hts0 (.laysStatic "java/util/ArrayList" "DEFAULTCAPACITY_EMPTY_ELEMENTDATA" "[Ljava/lang/Object;") (by decide +kernel)) (hts0 (.initialized "java/util/ArrayList") (by decide +kernel)) he0 hAn, hT0⟩
  have hNc : wNc s := ⟨va_Nc.of (hs (.not (.castable "java/util/NoSuchElementException" "java/lang/IllegalArgumentException")) (by decide +kernel)), va_Nc.of (hs (.not (.castable "java/lang/IndexOutOfBoundsException" "java/lang/IllegalArgumentException")) (by decide +kernel))⟩
  clear hKD
  have hS : va_S A s.heap s.heap [] := va_S.rf
  have hP : va_P D vwCl [] s.heap := w_nilP
  have hD : va_D A [] := w_nilD
  refine w_entry (Nat.le_of_ble_eq_true rfl) (fun ls hl => ?_)
  have hl : lv_has ls 9 [(0, .ref b)] := hl
  refine va_new (ci := 12) (fs := [.null, .null, .null, .null, .null, .null, .int 0, .int 0, .int 0]) (C := RX11) (T := TX11) (N := 9) hx hb hts (by decide +kernel) tyX11 tyX11_ok hown (hts (.classLink RL 8 RX11) (by decide +kernel)) (hts (.instantiable RX11 9) (by decide +kernel)) (hts (.initialized RX11) (by decide +kernel)) hC.1 hP hD hS hA rfl (fun j hj => by rcases (show j = 0 ∨ j = 1 ∨ j = 2 ∨ j = 3 ∨ j = 4 ∨ j = 5 ∨ j = 6 ∨ j = 7 ∨ j = 8 by omega) with rfl | rfl | rfl | rfl | rfl | rfl | rfl | rfl | rfl <;> rfl) (Nat.le_of_ble_eq_true rfl) (Nat.le_of_ble_eq_true rfl) dL_law_0 (fun q0 H hP hD hS => ?_)
  have hP : va_P D vwCl [(q0, .inr (12, [.null, .null, .null, .null, .null, .null, .int 0, .int 0, .int 0]))] H := hP
  have hD : va_D A [(q0, .inr (12, [.null, .null, .null, .null, .null, .null, .int 0, .int 0, .int 0]))] := hD
  refine lv_dup hx hb dL_law_3 rfl ?_
  have hPc := hP.sub (ws' := [(q0, .inr (12, [.null, .null, .null, .null, .null, .null, .int 0, .int 0, .int 0]))]) [0] rfl
  have hDc := hD.sub (ws' := [(q0, .inr (12, [.null, .null, .null, .null, .null, .null, .int 0, .int 0, .int 0]))]) [0] (by decide) rfl
  have hFc := va_free (wc := [(q0, .inr (12, [.null, .null, .null, .null, .null, .null, .int 0, .int 0, .int 0]))]) hD hS hA [0] rfl
  refine va_callv (va_runI (As := []) (rest := [.ref q0]) ⟨hx, hb, hml, hown, hts⟩ (k_X11_init l D k e0 H.size q0) (cwI 0 hts gL_law_X11_init rfl rfl rfl (hts (.initialized RX11) (by decide +kernel)) (hts (.methodLink RL 97 yX11_init) (by decide +kernel)) (hts (.instanceMethod yX11_init) (by decide +kernel)) rfl (by decide +kernel) ⟨Nat.le_of_ble_eq_true rfl, Nat.le_of_ble_eq_true rfl⟩) ⟨mPc_fb, mPc_go hC hHf hS hPc hDc hFc⟩ rfl rfl hl.1 rfl (lv_room (Nat.le_of_ble_eq_true rfl)) dL_law_4 ⟨Nat.le_of_ble_eq_true rfl, Nat.le_of_ble_eq_true rfl⟩) hS (fun q9 _ h9 => hFc q9 h9) hFc (fun u1 t H locs ht hvm hw_r2 hB hz1 hk1 hS => ?_)
  obtain ⟨hP1, hD1⟩ := hB
  rw [ht] at hP1
  obtain ⟨hP, hD⟩ := va_join (wr := []) (w1 := [(q0, .inr (12, [.ref (u1 0), .ref (u1 1), .ref (u1 2), .ref (u1 3), .ref (u1 4), .ref (u1 5), .int 0, .int 0, .int 0])), ((u1 0), .inl (k 3, 4, .inr (.inr (.inr (.inr (fun i => some (u1 (6 + i)))))))), ((u1 1), .inr (2, [.int 0, .ref e0, .int 0])), ((u1 2), .inr (2, [.int 0, .ref e0, .int 0])), ((u1 3), .inr (2, [.int 0, .ref e0, .int 0])), ((u1 6), .inr (4, [.ref (u1 10), .ref (u1 14), .int 0, .int 0, .int 0])), ((u1 10), .inl (k 0, 768, .inl (fun _ => 0))), ((u1 14), .inr (8, [.ref (u1 18), .int 1, .ref (u1 22)])), ((u1 18), .inl (k 1, 768, .inr (.inl (fun _ => 0)))), ((u1 7), .inr (4, [.ref (u1 11), .ref (u1 15), .int 0, .int 0, .int 0])), ((u1 11), .inl (k 0, 768, .inl (fun _ => 0))), ((u1 15), .inr (8, [.ref (u1 19), .int 1, .ref (u1 23)])), ((u1 19), .inl (k 1, 768, .inr (.inl (fun _ => 0)))), ((u1 8), .inr (4, [.ref (u1 12), .ref (u1 16), .int 0, .int 0, .int 0])), ((u1 12), .inl (k 0, 768, .inl (fun _ => 0))), ((u1 16), .inr (8, [.ref (u1 20), .int 1, .ref (u1 24)])), ((u1 20), .inl (k 1, 768, .inr (.inl (fun _ => 0)))), ((u1 9), .inr (4, [.ref (u1 13), .ref (u1 17), .int 0, .int 0, .int 0])), ((u1 13), .inl (k 0, 768, .inl (fun _ => 0))), ((u1 17), .inr (8, [.ref (u1 21), .int 1, .ref (u1 25)])), ((u1 21), .inl (k 1, 768, .inr (.inl (fun _ => 0))))]) hP hD [0] [] rfl rfl (by decide) (by decide) hk1 hFc hP1 hD1
  have hP : va_P D vwCl [(q0, .inr (12, [.ref (u1 0), .ref (u1 1), .ref (u1 2), .ref (u1 3), .ref (u1 4), .ref (u1 5), .int 0, .int 0, .int 0])), ((u1 0), .inl (k 3, 4, .inr (.inr (.inr (.inr (fun i => some (u1 (6 + i)))))))), ((u1 1), .inr (2, [.int 0, .ref e0, .int 0])), ((u1 2), .inr (2, [.int 0, .ref e0, .int 0])), ((u1 3), .inr (2, [.int 0, .ref e0, .int 0])), ((u1 6), .inr (4, [.ref (u1 10), .ref (u1 14), .int 0, .int 0, .int 0])), ((u1 10), .inl (k 0, 768, .inl (fun _ => 0))), ((u1 14), .inr (8, [.ref (u1 18), .int 1, .ref (u1 22)])), ((u1 18), .inl (k 1, 768, .inr (.inl (fun _ => 0)))), ((u1 7), .inr (4, [.ref (u1 11), .ref (u1 15), .int 0, .int 0, .int 0])), ((u1 11), .inl (k 0, 768, .inl (fun _ => 0))), ((u1 15), .inr (8, [.ref (u1 19), .int 1, .ref (u1 23)])), ((u1 19), .inl (k 1, 768, .inr (.inl (fun _ => 0)))), ((u1 8), .inr (4, [.ref (u1 12), .ref (u1 16), .int 0, .int 0, .int 0])), ((u1 12), .inl (k 0, 768, .inl (fun _ => 0))), ((u1 16), .inr (8, [.ref (u1 20), .int 1, .ref (u1 24)])), ((u1 20), .inl (k 1, 768, .inr (.inl (fun _ => 0)))), ((u1 9), .inr (4, [.ref (u1 13), .ref (u1 17), .int 0, .int 0, .int 0])), ((u1 13), .inl (k 0, 768, .inl (fun _ => 0))), ((u1 17), .inr (8, [.ref (u1 21), .int 1, .ref (u1 25)])), ((u1 21), .inl (k 1, 768, .inr (.inl (fun _ => 0))))] H := hP
  have hD : va_D A [(q0, .inr (12, [.ref (u1 0), .ref (u1 1), .ref (u1 2), .ref (u1 3), .ref (u1 4), .ref (u1 5), .int 0, .int 0, .int 0])), ((u1 0), .inl (k 3, 4, .inr (.inr (.inr (.inr (fun i => some (u1 (6 + i)))))))), ((u1 1), .inr (2, [.int 0, .ref e0, .int 0])), ((u1 2), .inr (2, [.int 0, .ref e0, .int 0])), ((u1 3), .inr (2, [.int 0, .ref e0, .int 0])), ((u1 6), .inr (4, [.ref (u1 10), .ref (u1 14), .int 0, .int 0, .int 0])), ((u1 10), .inl (k 0, 768, .inl (fun _ => 0))), ((u1 14), .inr (8, [.ref (u1 18), .int 1, .ref (u1 22)])), ((u1 18), .inl (k 1, 768, .inr (.inl (fun _ => 0)))), ((u1 7), .inr (4, [.ref (u1 11), .ref (u1 15), .int 0, .int 0, .int 0])), ((u1 11), .inl (k 0, 768, .inl (fun _ => 0))), ((u1 15), .inr (8, [.ref (u1 19), .int 1, .ref (u1 23)])), ((u1 19), .inl (k 1, 768, .inr (.inl (fun _ => 0)))), ((u1 8), .inr (4, [.ref (u1 12), .ref (u1 16), .int 0, .int 0, .int 0])), ((u1 12), .inl (k 0, 768, .inl (fun _ => 0))), ((u1 16), .inr (8, [.ref (u1 20), .int 1, .ref (u1 24)])), ((u1 20), .inl (k 1, 768, .inr (.inl (fun _ => 0)))), ((u1 9), .inr (4, [.ref (u1 13), .ref (u1 17), .int 0, .int 0, .int 0])), ((u1 13), .inl (k 0, 768, .inl (fun _ => 0))), ((u1 17), .inr (8, [.ref (u1 21), .int 1, .ref (u1 25)])), ((u1 21), .inl (k 1, 768, .inr (.inl (fun _ => 0))))] := hD
  refine lv_astore_n (lv' := [(1, .ref q0), (0, .ref b)]) hx hb dL_law_7 rfl hl (by decide) rfl (fun ls hl => ?_)
  refine va_new (ci := 13) (fs := [.int 0, .null, .int 0, .null, .int 0, .int 0, .null, .int 0, .null, .null, .int 0]) (C := RX12) (T := TX12) (N := 11) hx hb hts (by decide +kernel) tyX12 tyX12_ok hown (hts (.classLink RL 98 RX12) (by decide +kernel)) (hts (.instantiable RX12 11) (by decide +kernel)) (hts (.initialized RX12) (by decide +kernel)) hC.1 hP hD hS hA rfl (fun j hj => by rcases (show j = 0 ∨ j = 1 ∨ j = 2 ∨ j = 3 ∨ j = 4 ∨ j = 5 ∨ j = 6 ∨ j = 7 ∨ j = 8 ∨ j = 9 ∨ j = 10 by omega) with rfl | rfl | rfl | rfl | rfl | rfl | rfl | rfl | rfl | rfl | rfl <;> rfl) (Nat.le_of_ble_eq_true rfl) (Nat.le_of_ble_eq_true rfl) dL_law_8 (fun q8 H hP hD hS => ?_)
  have hP : va_P D vwCl [(q0, .inr (12, [.ref (u1 0), .ref (u1 1), .ref (u1 2), .ref (u1 3), .ref (u1 4), .ref (u1 5), .int 0, .int 0, .int 0])), ((u1 0), .inl (k 3, 4, .inr (.inr (.inr (.inr (fun i => some (u1 (6 + i)))))))), ((u1 1), .inr (2, [.int 0, .ref e0, .int 0])), ((u1 2), .inr (2, [.int 0, .ref e0, .int 0])), ((u1 3), .inr (2, [.int 0, .ref e0, .int 0])), ((u1 6), .inr (4, [.ref (u1 10), .ref (u1 14), .int 0, .int 0, .int 0])), ((u1 10), .inl (k 0, 768, .inl (fun _ => 0))), ((u1 14), .inr (8, [.ref (u1 18), .int 1, .ref (u1 22)])), ((u1 18), .inl (k 1, 768, .inr (.inl (fun _ => 0)))), ((u1 7), .inr (4, [.ref (u1 11), .ref (u1 15), .int 0, .int 0, .int 0])), ((u1 11), .inl (k 0, 768, .inl (fun _ => 0))), ((u1 15), .inr (8, [.ref (u1 19), .int 1, .ref (u1 23)])), ((u1 19), .inl (k 1, 768, .inr (.inl (fun _ => 0)))), ((u1 8), .inr (4, [.ref (u1 12), .ref (u1 16), .int 0, .int 0, .int 0])), ((u1 12), .inl (k 0, 768, .inl (fun _ => 0))), ((u1 16), .inr (8, [.ref (u1 20), .int 1, .ref (u1 24)])), ((u1 20), .inl (k 1, 768, .inr (.inl (fun _ => 0)))), ((u1 9), .inr (4, [.ref (u1 13), .ref (u1 17), .int 0, .int 0, .int 0])), ((u1 13), .inl (k 0, 768, .inl (fun _ => 0))), ((u1 17), .inr (8, [.ref (u1 21), .int 1, .ref (u1 25)])), ((u1 21), .inl (k 1, 768, .inr (.inl (fun _ => 0)))), (q8, .inr (13, [.int 0, .null, .int 0, .null, .int 0, .int 0, .null, .int 0, .null, .null, .int 0]))] H := hP
  have hD : va_D A [(q0, .inr (12, [.ref (u1 0), .ref (u1 1), .ref (u1 2), .ref (u1 3), .ref (u1 4), .ref (u1 5), .int 0, .int 0, .int 0])), ((u1 0), .inl (k 3, 4, .inr (.inr (.inr (.inr (fun i => some (u1 (6 + i)))))))), ((u1 1), .inr (2, [.int 0, .ref e0, .int 0])), ((u1 2), .inr (2, [.int 0, .ref e0, .int 0])), ((u1 3), .inr (2, [.int 0, .ref e0, .int 0])), ((u1 6), .inr (4, [.ref (u1 10), .ref (u1 14), .int 0, .int 0, .int 0])), ((u1 10), .inl (k 0, 768, .inl (fun _ => 0))), ((u1 14), .inr (8, [.ref (u1 18), .int 1, .ref (u1 22)])), ((u1 18), .inl (k 1, 768, .inr (.inl (fun _ => 0)))), ((u1 7), .inr (4, [.ref (u1 11), .ref (u1 15), .int 0, .int 0, .int 0])), ((u1 11), .inl (k 0, 768, .inl (fun _ => 0))), ((u1 15), .inr (8, [.ref (u1 19), .int 1, .ref (u1 23)])), ((u1 19), .inl (k 1, 768, .inr (.inl (fun _ => 0)))), ((u1 8), .inr (4, [.ref (u1 12), .ref (u1 16), .int 0, .int 0, .int 0])), ((u1 12), .inl (k 0, 768, .inl (fun _ => 0))), ((u1 16), .inr (8, [.ref (u1 20), .int 1, .ref (u1 24)])), ((u1 20), .inl (k 1, 768, .inr (.inl (fun _ => 0)))), ((u1 9), .inr (4, [.ref (u1 13), .ref (u1 17), .int 0, .int 0, .int 0])), ((u1 13), .inl (k 0, 768, .inl (fun _ => 0))), ((u1 17), .inr (8, [.ref (u1 21), .int 1, .ref (u1 25)])), ((u1 21), .inl (k 1, 768, .inr (.inl (fun _ => 0)))), (q8, .inr (13, [.int 0, .null, .int 0, .null, .int 0, .int 0, .null, .int 0, .null, .null, .int 0]))] := hD
  refine lv_dup hx hb dL_law_11 rfl ?_
  have hPc := hP.sub (ws' := [(q8, .inr (13, [.int 0, .null, .int 0, .null, .int 0, .int 0, .null, .int 0, .null, .null, .int 0]))]) [21] rfl
  have hDc := hD.sub (ws' := [(q8, .inr (13, [.int 0, .null, .int 0, .null, .int 0, .int 0, .null, .int 0, .null, .null, .int 0]))]) [21] (by decide) rfl
  have hFc := va_free (wc := [(q8, .inr (13, [.int 0, .null, .int 0, .null, .int 0, .int 0, .null, .int 0, .null, .null, .int 0]))]) hD hS hA [21] rfl
  refine va_callv (va_runI (As := []) (rest := [.ref q8]) ⟨hx, hb, hml, hown, hts⟩ (k_X12_init l D k e0 H.size q8) (cwI 0 hts gL_law_X12_init rfl rfl rfl (hts (.initialized RX12) (by decide +kernel)) (hts (.methodLink RL 100 yX12_init) (by decide +kernel)) (hts (.instanceMethod yX12_init) (by decide +kernel)) rfl (by decide +kernel) ⟨Nat.le_of_ble_eq_true rfl, Nat.le_of_ble_eq_true rfl⟩) ⟨mPc_fb, mPc_go hC hHf hS hPc hDc hFc⟩ rfl rfl hl.1 rfl (lv_room (Nat.le_of_ble_eq_true rfl)) dL_law_12 ⟨Nat.le_of_ble_eq_true rfl, Nat.le_of_ble_eq_true rfl⟩) hS (fun q9 _ h9 => hFc q9 h9) hFc (fun u4 t H locs ht hvm hw_r5 hB hz1 hk1 hS => ?_)
  obtain ⟨hP1, hD1⟩ := hB
  rw [ht] at hP1
  obtain ⟨hP, hD⟩ := va_join (wr := [(q0, .inr (12, [.ref (u1 0), .ref (u1 1), .ref (u1 2), .ref (u1 3), .ref (u1 4), .ref (u1 5), .int 0, .int 0, .int 0])), ((u1 0), .inl (k 3, 4, .inr (.inr (.inr (.inr (fun i => some (u1 (6 + i)))))))), ((u1 1), .inr (2, [.int 0, .ref e0, .int 0])), ((u1 2), .inr (2, [.int 0, .ref e0, .int 0])), ((u1 3), .inr (2, [.int 0, .ref e0, .int 0])), ((u1 6), .inr (4, [.ref (u1 10), .ref (u1 14), .int 0, .int 0, .int 0])), ((u1 10), .inl (k 0, 768, .inl (fun _ => 0))), ((u1 14), .inr (8, [.ref (u1 18), .int 1, .ref (u1 22)])), ((u1 18), .inl (k 1, 768, .inr (.inl (fun _ => 0)))), ((u1 7), .inr (4, [.ref (u1 11), .ref (u1 15), .int 0, .int 0, .int 0])), ((u1 11), .inl (k 0, 768, .inl (fun _ => 0))), ((u1 15), .inr (8, [.ref (u1 19), .int 1, .ref (u1 23)])), ((u1 19), .inl (k 1, 768, .inr (.inl (fun _ => 0)))), ((u1 8), .inr (4, [.ref (u1 12), .ref (u1 16), .int 0, .int 0, .int 0])), ((u1 12), .inl (k 0, 768, .inl (fun _ => 0))), ((u1 16), .inr (8, [.ref (u1 20), .int 1, .ref (u1 24)])), ((u1 20), .inl (k 1, 768, .inr (.inl (fun _ => 0)))), ((u1 9), .inr (4, [.ref (u1 13), .ref (u1 17), .int 0, .int 0, .int 0])), ((u1 13), .inl (k 0, 768, .inl (fun _ => 0))), ((u1 17), .inr (8, [.ref (u1 21), .int 1, .ref (u1 25)])), ((u1 21), .inl (k 1, 768, .inr (.inl (fun _ => 0))))]) (w1 := [(q8, .inr (13, [.int 0, .ref (u4 0), .int 0, .ref (u4 1), .int 0, .int 0, .ref (u4 2), .int 0, .ref (u4 3), .ref (u4 4), .int 0])), ((u4 0), .inl (k 5, 3, .inr (.inr (.inr (.inr (fun i => some (u4 (5 + i)))))))), ((u4 5), .inl (k 0, 768, .inl (fun _ => 0))), ((u4 6), .inl (k 0, 768, .inl (fun _ => 0))), ((u4 7), .inl (k 0, 768, .inl (fun _ => 0))), ((u4 1), .inl (k 6, 8, .inr (.inr (.inr (.inr (fun _ => none)))))), ((u4 2), .inl (k 6, 20, .inr (.inr (.inr (.inr (fun _ => none)))))), ((u4 4), .inl (k 6, 6, .inr (.inr (.inr (.inr (fun _ => none))))))]) hP hD [21] [0, 1, 2, 3, 4, 5, 6, 7, 8, 9, 10, 11, 12, 13, 14, 15, 16, 17, 18, 19, 20] rfl rfl (by decide) (by decide) hk1 hFc hP1 hD1
  have hP : va_P D vwCl [(q0, .inr (12, [.ref (u1 0), .ref (u1 1), .ref (u1 2), .ref (u1 3), .ref (u1 4), .ref (u1 5), .int 0, .int 0, .int 0])), ((u1 0), .inl (k 3, 4, .inr (.inr (.inr (.inr (fun i => some (u1 (6 + i)))))))), ((u1 1), .inr (2, [.int 0, .ref e0, .int 0])), ((u1 2), .inr (2, [.int 0, .ref e0, .int 0])), ((u1 3), .inr (2, [.int 0, .ref e0, .int 0])), ((u1 6), .inr (4, [.ref (u1 10), .ref (u1 14), .int 0, .int 0, .int 0])), ((u1 10), .inl (k 0, 768, .inl (fun _ => 0))), ((u1 14), .inr (8, [.ref (u1 18), .int 1, .ref (u1 22)])), ((u1 18), .inl (k 1, 768, .inr (.inl (fun _ => 0)))), ((u1 7), .inr (4, [.ref (u1 11), .ref (u1 15), .int 0, .int 0, .int 0])), ((u1 11), .inl (k 0, 768, .inl (fun _ => 0))), ((u1 15), .inr (8, [.ref (u1 19), .int 1, .ref (u1 23)])), ((u1 19), .inl (k 1, 768, .inr (.inl (fun _ => 0)))), ((u1 8), .inr (4, [.ref (u1 12), .ref (u1 16), .int 0, .int 0, .int 0])), ((u1 12), .inl (k 0, 768, .inl (fun _ => 0))), ((u1 16), .inr (8, [.ref (u1 20), .int 1, .ref (u1 24)])), ((u1 20), .inl (k 1, 768, .inr (.inl (fun _ => 0)))), ((u1 9), .inr (4, [.ref (u1 13), .ref (u1 17), .int 0, .int 0, .int 0])), ((u1 13), .inl (k 0, 768, .inl (fun _ => 0))), ((u1 17), .inr (8, [.ref (u1 21), .int 1, .ref (u1 25)])), ((u1 21), .inl (k 1, 768, .inr (.inl (fun _ => 0)))), (q8, .inr (13, [.int 0, .ref (u4 0), .int 0, .ref (u4 1), .int 0, .int 0, .ref (u4 2), .int 0, .ref (u4 3), .ref (u4 4), .int 0])), ((u4 0), .inl (k 5, 3, .inr (.inr (.inr (.inr (fun i => some (u4 (5 + i)))))))), ((u4 5), .inl (k 0, 768, .inl (fun _ => 0))), ((u4 6), .inl (k 0, 768, .inl (fun _ => 0))), ((u4 7), .inl (k 0, 768, .inl (fun _ => 0))), ((u4 1), .inl (k 6, 8, .inr (.inr (.inr (.inr (fun _ => none)))))), ((u4 2), .inl (k 6, 20, .inr (.inr (.inr (.inr (fun _ => none)))))), ((u4 4), .inl (k 6, 6, .inr (.inr (.inr (.inr (fun _ => none))))))] H := hP
  have hD : va_D A [(q0, .inr (12, [.ref (u1 0), .ref (u1 1), .ref (u1 2), .ref (u1 3), .ref (u1 4), .ref (u1 5), .int 0, .int 0, .int 0])), ((u1 0), .inl (k 3, 4, .inr (.inr (.inr (.inr (fun i => some (u1 (6 + i)))))))), ((u1 1), .inr (2, [.int 0, .ref e0, .int 0])), ((u1 2), .inr (2, [.int 0, .ref e0, .int 0])), ((u1 3), .inr (2, [.int 0, .ref e0, .int 0])), ((u1 6), .inr (4, [.ref (u1 10), .ref (u1 14), .int 0, .int 0, .int 0])), ((u1 10), .inl (k 0, 768, .inl (fun _ => 0))), ((u1 14), .inr (8, [.ref (u1 18), .int 1, .ref (u1 22)])), ((u1 18), .inl (k 1, 768, .inr (.inl (fun _ => 0)))), ((u1 7), .inr (4, [.ref (u1 11), .ref (u1 15), .int 0, .int 0, .int 0])), ((u1 11), .inl (k 0, 768, .inl (fun _ => 0))), ((u1 15), .inr (8, [.ref (u1 19), .int 1, .ref (u1 23)])), ((u1 19), .inl (k 1, 768, .inr (.inl (fun _ => 0)))), ((u1 8), .inr (4, [.ref (u1 12), .ref (u1 16), .int 0, .int 0, .int 0])), ((u1 12), .inl (k 0, 768, .inl (fun _ => 0))), ((u1 16), .inr (8, [.ref (u1 20), .int 1, .ref (u1 24)])), ((u1 20), .inl (k 1, 768, .inr (.inl (fun _ => 0)))), ((u1 9), .inr (4, [.ref (u1 13), .ref (u1 17), .int 0, .int 0, .int 0])), ((u1 13), .inl (k 0, 768, .inl (fun _ => 0))), ((u1 17), .inr (8, [.ref (u1 21), .int 1, .ref (u1 25)])), ((u1 21), .inl (k 1, 768, .inr (.inl (fun _ => 0)))), (q8, .inr (13, [.int 0, .ref (u4 0), .int 0, .ref (u4 1), .int 0, .int 0, .ref (u4 2), .int 0, .ref (u4 3), .ref (u4 4), .int 0])), ((u4 0), .inl (k 5, 3, .inr (.inr (.inr (.inr (fun i => some (u4 (5 + i)))))))), ((u4 5), .inl (k 0, 768, .inl (fun _ => 0))), ((u4 6), .inl (k 0, 768, .inl (fun _ => 0))), ((u4 7), .inl (k 0, 768, .inl (fun _ => 0))), ((u4 1), .inl (k 6, 8, .inr (.inr (.inr (.inr (fun _ => none)))))), ((u4 2), .inl (k 6, 20, .inr (.inr (.inr (.inr (fun _ => none)))))), ((u4 4), .inl (k 6, 6, .inr (.inr (.inr (.inr (fun _ => none))))))] := hD
  refine lv_astore_n (lv' := [(2, .ref q8), (1, .ref q0), (0, .ref b)]) hx hb dL_law_15 rfl hl (by decide) rfl (fun ls hl => ?_)
  refine lv_iconst (v := 1) hx hb dL_law_16 (by decide) ?_
  refine w_newa (atype := .long) hx hb (hts (.arrayClass .long) (by decide +kernel)) (ty := .long) rfl 1 rfl hC.1 hP hD hS hA (a0 := (1, .inr (.inl (fun _ => 0)))) (N' := 1) (fun _ => rfl) (by decide) (by decide) (Nat.le_of_ble_eq_true rfl) (Nat.le_of_ble_eq_true rfl) (Nat.le_of_ble_eq_true rfl) dL_law_17 (fun q17 H hP hD hS => ?_)
  have hP : va_P D vwCl [(q0, .inr (12, [.ref (u1 0), .ref (u1 1), .ref (u1 2), .ref (u1 3), .ref (u1 4), .ref (u1 5), .int 0, .int 0, .int 0])), ((u1 0), .inl (k 3, 4, .inr (.inr (.inr (.inr (fun i => some (u1 (6 + i)))))))), ((u1 1), .inr (2, [.int 0, .ref e0, .int 0])), ((u1 2), .inr (2, [.int 0, .ref e0, .int 0])), ((u1 3), .inr (2, [.int 0, .ref e0, .int 0])), ((u1 6), .inr (4, [.ref (u1 10), .ref (u1 14), .int 0, .int 0, .int 0])), ((u1 10), .inl (k 0, 768, .inl (fun _ => 0))), ((u1 14), .inr (8, [.ref (u1 18), .int 1, .ref (u1 22)])), ((u1 18), .inl (k 1, 768, .inr (.inl (fun _ => 0)))), ((u1 7), .inr (4, [.ref (u1 11), .ref (u1 15), .int 0, .int 0, .int 0])), ((u1 11), .inl (k 0, 768, .inl (fun _ => 0))), ((u1 15), .inr (8, [.ref (u1 19), .int 1, .ref (u1 23)])), ((u1 19), .inl (k 1, 768, .inr (.inl (fun _ => 0)))), ((u1 8), .inr (4, [.ref (u1 12), .ref (u1 16), .int 0, .int 0, .int 0])), ((u1 12), .inl (k 0, 768, .inl (fun _ => 0))), ((u1 16), .inr (8, [.ref (u1 20), .int 1, .ref (u1 24)])), ((u1 20), .inl (k 1, 768, .inr (.inl (fun _ => 0)))), ((u1 9), .inr (4, [.ref (u1 13), .ref (u1 17), .int 0, .int 0, .int 0])), ((u1 13), .inl (k 0, 768, .inl (fun _ => 0))), ((u1 17), .inr (8, [.ref (u1 21), .int 1, .ref (u1 25)])), ((u1 21), .inl (k 1, 768, .inr (.inl (fun _ => 0)))), (q8, .inr (13, [.int 0, .ref (u4 0), .int 0, .ref (u4 1), .int 0, .int 0, .ref (u4 2), .int 0, .ref (u4 3), .ref (u4 4), .int 0])), ((u4 0), .inl (k 5, 3, .inr (.inr (.inr (.inr (fun i => some (u4 (5 + i)))))))), ((u4 5), .inl (k 0, 768, .inl (fun _ => 0))), ((u4 6), .inl (k 0, 768, .inl (fun _ => 0))), ((u4 7), .inl (k 0, 768, .inl (fun _ => 0))), ((u4 1), .inl (k 6, 8, .inr (.inr (.inr (.inr (fun _ => none)))))), ((u4 2), .inl (k 6, 20, .inr (.inr (.inr (.inr (fun _ => none)))))), ((u4 4), .inl (k 6, 6, .inr (.inr (.inr (.inr (fun _ => none)))))), (q17, .inl (k 1, 1, .inr (.inl (fun _ => 0))))] H := hP
  have hD : va_D A [(q0, .inr (12, [.ref (u1 0), .ref (u1 1), .ref (u1 2), .ref (u1 3), .ref (u1 4), .ref (u1 5), .int 0, .int 0, .int 0])), ((u1 0), .inl (k 3, 4, .inr (.inr (.inr (.inr (fun i => some (u1 (6 + i)))))))), ((u1 1), .inr (2, [.int 0, .ref e0, .int 0])), ((u1 2), .inr (2, [.int 0, .ref e0, .int 0])), ((u1 3), .inr (2, [.int 0, .ref e0, .int 0])), ((u1 6), .inr (4, [.ref (u1 10), .ref (u1 14), .int 0, .int 0, .int 0])), ((u1 10), .inl (k 0, 768, .inl (fun _ => 0))), ((u1 14), .inr (8, [.ref (u1 18), .int 1, .ref (u1 22)])), ((u1 18), .inl (k 1, 768, .inr (.inl (fun _ => 0)))), ((u1 7), .inr (4, [.ref (u1 11), .ref (u1 15), .int 0, .int 0, .int 0])), ((u1 11), .inl (k 0, 768, .inl (fun _ => 0))), ((u1 15), .inr (8, [.ref (u1 19), .int 1, .ref (u1 23)])), ((u1 19), .inl (k 1, 768, .inr (.inl (fun _ => 0)))), ((u1 8), .inr (4, [.ref (u1 12), .ref (u1 16), .int 0, .int 0, .int 0])), ((u1 12), .inl (k 0, 768, .inl (fun _ => 0))), ((u1 16), .inr (8, [.ref (u1 20), .int 1, .ref (u1 24)])), ((u1 20), .inl (k 1, 768, .inr (.inl (fun _ => 0)))), ((u1 9), .inr (4, [.ref (u1 13), .ref (u1 17), .int 0, .int 0, .int 0])), ((u1 13), .inl (k 0, 768, .inl (fun _ => 0))), ((u1 17), .inr (8, [.ref (u1 21), .int 1, .ref (u1 25)])), ((u1 21), .inl (k 1, 768, .inr (.inl (fun _ => 0)))), (q8, .inr (13, [.int 0, .ref (u4 0), .int 0, .ref (u4 1), .int 0, .int 0, .ref (u4 2), .int 0, .ref (u4 3), .ref (u4 4), .int 0])), ((u4 0), .inl (k 5, 3, .inr (.inr (.inr (.inr (fun i => some (u4 (5 + i)))))))), ((u4 5), .inl (k 0, 768, .inl (fun _ => 0))), ((u4 6), .inl (k 0, 768, .inl (fun _ => 0))), ((u4 7), .inl (k 0, 768, .inl (fun _ => 0))), ((u4 1), .inl (k 6, 8, .inr (.inr (.inr (.inr (fun _ => none)))))), ((u4 2), .inl (k 6, 20, .inr (.inr (.inr (.inr (fun _ => none)))))), ((u4 4), .inl (k 6, 6, .inr (.inr (.inr (.inr (fun _ => none)))))), (q17, .inl (k 1, 1, .inr (.inl (fun _ => 0))))] := hD
  refine lv_astore_n (lv' := [(3, .ref q17), (2, .ref q8), (1, .ref q0), (0, .ref b)]) hx hb dL_law_19 rfl hl (by decide) rfl (fun ls hl => ?_)
  refine lv_iconst (v := 1) hx hb dL_law_20 (by decide) ?_
  refine w_newa (atype := .double) hx hb (hts (.arrayClass .double) (by decide +kernel)) (ty := .double) rfl 8 rfl hC.1 hP hD hS hA (a0 := (1, .inr (.inr (.inr (.inl (fun _ => 0)))))) (N' := 1) (fun _ => rfl) (by decide) (by decide) (Nat.le_of_ble_eq_true rfl) (Nat.le_of_ble_eq_true rfl) (Nat.le_of_ble_eq_true rfl) dL_law_21 (fun q21 H hP hD hS => ?_)
  have hP : va_P D vwCl [(q0, .inr (12, [.ref (u1 0), .ref (u1 1), .ref (u1 2), .ref (u1 3), .ref (u1 4), .ref (u1 5), .int 0, .int 0, .int 0])), ((u1 0), .inl (k 3, 4, .inr (.inr (.inr (.inr (fun i => some (u1 (6 + i)))))))), ((u1 1), .inr (2, [.int 0, .ref e0, .int 0])), ((u1 2), .inr (2, [.int 0, .ref e0, .int 0])), ((u1 3), .inr (2, [.int 0, .ref e0, .int 0])), ((u1 6), .inr (4, [.ref (u1 10), .ref (u1 14), .int 0, .int 0, .int 0])), ((u1 10), .inl (k 0, 768, .inl (fun _ => 0))), ((u1 14), .inr (8, [.ref (u1 18), .int 1, .ref (u1 22)])), ((u1 18), .inl (k 1, 768, .inr (.inl (fun _ => 0)))), ((u1 7), .inr (4, [.ref (u1 11), .ref (u1 15), .int 0, .int 0, .int 0])), ((u1 11), .inl (k 0, 768, .inl (fun _ => 0))), ((u1 15), .inr (8, [.ref (u1 19), .int 1, .ref (u1 23)])), ((u1 19), .inl (k 1, 768, .inr (.inl (fun _ => 0)))), ((u1 8), .inr (4, [.ref (u1 12), .ref (u1 16), .int 0, .int 0, .int 0])), ((u1 12), .inl (k 0, 768, .inl (fun _ => 0))), ((u1 16), .inr (8, [.ref (u1 20), .int 1, .ref (u1 24)])), ((u1 20), .inl (k 1, 768, .inr (.inl (fun _ => 0)))), ((u1 9), .inr (4, [.ref (u1 13), .ref (u1 17), .int 0, .int 0, .int 0])), ((u1 13), .inl (k 0, 768, .inl (fun _ => 0))), ((u1 17), .inr (8, [.ref (u1 21), .int 1, .ref (u1 25)])), ((u1 21), .inl (k 1, 768, .inr (.inl (fun _ => 0)))), (q8, .inr (13, [.int 0, .ref (u4 0), .int 0, .ref (u4 1), .int 0, .int 0, .ref (u4 2), .int 0, .ref (u4 3), .ref (u4 4), .int 0])), ((u4 0), .inl (k 5, 3, .inr (.inr (.inr (.inr (fun i => some (u4 (5 + i)))))))), ((u4 5), .inl (k 0, 768, .inl (fun _ => 0))), ((u4 6), .inl (k 0, 768, .inl (fun _ => 0))), ((u4 7), .inl (k 0, 768, .inl (fun _ => 0))), ((u4 1), .inl (k 6, 8, .inr (.inr (.inr (.inr (fun _ => none)))))), ((u4 2), .inl (k 6, 20, .inr (.inr (.inr (.inr (fun _ => none)))))), ((u4 4), .inl (k 6, 6, .inr (.inr (.inr (.inr (fun _ => none)))))), (q17, .inl (k 1, 1, .inr (.inl (fun _ => 0)))), (q21, .inl (k 8, 1, .inr (.inr (.inr (.inl (fun _ => 0))))))] H := hP
  have hD : va_D A [(q0, .inr (12, [.ref (u1 0), .ref (u1 1), .ref (u1 2), .ref (u1 3), .ref (u1 4), .ref (u1 5), .int 0, .int 0, .int 0])), ((u1 0), .inl (k 3, 4, .inr (.inr (.inr (.inr (fun i => some (u1 (6 + i)))))))), ((u1 1), .inr (2, [.int 0, .ref e0, .int 0])), ((u1 2), .inr (2, [.int 0, .ref e0, .int 0])), ((u1 3), .inr (2, [.int 0, .ref e0, .int 0])), ((u1 6), .inr (4, [.ref (u1 10), .ref (u1 14), .int 0, .int 0, .int 0])), ((u1 10), .inl (k 0, 768, .inl (fun _ => 0))), ((u1 14), .inr (8, [.ref (u1 18), .int 1, .ref (u1 22)])), ((u1 18), .inl (k 1, 768, .inr (.inl (fun _ => 0)))), ((u1 7), .inr (4, [.ref (u1 11), .ref (u1 15), .int 0, .int 0, .int 0])), ((u1 11), .inl (k 0, 768, .inl (fun _ => 0))), ((u1 15), .inr (8, [.ref (u1 19), .int 1, .ref (u1 23)])), ((u1 19), .inl (k 1, 768, .inr (.inl (fun _ => 0)))), ((u1 8), .inr (4, [.ref (u1 12), .ref (u1 16), .int 0, .int 0, .int 0])), ((u1 12), .inl (k 0, 768, .inl (fun _ => 0))), ((u1 16), .inr (8, [.ref (u1 20), .int 1, .ref (u1 24)])), ((u1 20), .inl (k 1, 768, .inr (.inl (fun _ => 0)))), ((u1 9), .inr (4, [.ref (u1 13), .ref (u1 17), .int 0, .int 0, .int 0])), ((u1 13), .inl (k 0, 768, .inl (fun _ => 0))), ((u1 17), .inr (8, [.ref (u1 21), .int 1, .ref (u1 25)])), ((u1 21), .inl (k 1, 768, .inr (.inl (fun _ => 0)))), (q8, .inr (13, [.int 0, .ref (u4 0), .int 0, .ref (u4 1), .int 0, .int 0, .ref (u4 2), .int 0, .ref (u4 3), .ref (u4 4), .int 0])), ((u4 0), .inl (k 5, 3, .inr (.inr (.inr (.inr (fun i => some (u4 (5 + i)))))))), ((u4 5), .inl (k 0, 768, .inl (fun _ => 0))), ((u4 6), .inl (k 0, 768, .inl (fun _ => 0))), ((u4 7), .inl (k 0, 768, .inl (fun _ => 0))), ((u4 1), .inl (k 6, 8, .inr (.inr (.inr (.inr (fun _ => none)))))), ((u4 2), .inl (k 6, 20, .inr (.inr (.inr (.inr (fun _ => none)))))), ((u4 4), .inl (k 6, 6, .inr (.inr (.inr (.inr (fun _ => none)))))), (q17, .inl (k 1, 1, .inr (.inl (fun _ => 0)))), (q21, .inl (k 8, 1, .inr (.inr (.inr (.inl (fun _ => 0))))))] := hD
  refine lv_astore (lv' := [(4, .ref q21), (3, .ref q17), (2, .ref q8), (1, .ref q0), (0, .ref b)]) hx hb dL_law_23 hl (by decide) rfl (fun ls hl => ?_)
  refine lv_iconst (v := 0) hx hb dL_law_25 (by decide) ?_
  refine lv_istore (lv' := [(5, .int 0), (4, .ref q21), (3, .ref q17), (2, .ref q8), (1, .ref q0), (0, .ref b)]) hx hb dL_law_26 hl (by decide) rfl (fun ls hl => ?_)
  refine lv_iload hx hb dL_law_28 (lv_at hl 0 rfl) ?_
  refine lv_aload_n hx hb dL_law_30 rfl (lv_at hl 5 rfl) ?_
  refine va_slen hx hb hX hbl hbA hS dL_law_31 ?_
  refine lv_bipush (v := 6) hx hb dL_law_32 (by decide) ?_
  refine lv_isub hx hb dL_law_34 ?_
  refine w_top (y := Int32.ofNat L - 6) (rfl) ?_
  refine lv_icmp_gt (tgt := 2052) hx hb dL_law_35 (by decide) (fun c_35 => ?_) (fun c_35 => ?_)
  · refine lv_iconst (v := 1) hx hb dL_law_2052 (by decide) ?_
    refine va_forget (fun q hq => hAs _ (hS.2.2 q hq)) ?_
    refine W.widen (k := 600006) (n := 7302072) (Nat.le_of_ble_eq_true rfl) (Nat.le_of_ble_eq_true rfl) ?_
    exact lw_ret (d0 := s.drawn) (Drawn.sameBut.refl s.drawn lw_cs) hx hb hr hlocks dL_law_2053
  · have hL6 : L = 6 := by rcases (show L = 0 ∨ L = 1 ∨ L = 2 ∨ L = 3 ∨ L = 4 ∨ L = 5 ∨ L = 6 by omega) with rfl | rfl | rfl | rfl | rfl | rfl | rfl; exact absurd (by decide) c_35; exact absurd (by decide) c_35; exact absurd (by decide) c_35; exact absurd (by decide) c_35; exact absurd (by decide) c_35; exact absurd (by decide) c_35; rfl
    subst hL6
    refine lv_aload_n hx hb dL_law_38 rfl (lv_at hl 5 rfl) ?_
    refine lv_iload hx hb dL_law_39 (lv_at hl 0 rfl) ?_
    refine va_sld hx hb hX hbl hbA hS (vp_in_nI (n := 0) (N := 6) (by decide) (by decide)) dL_law_41 ?_
    refine w_top (y := xs 0) rfl ?_
    refine lv_bipush (v := 31) hx hb dL_law_42 (by decide) ?_
    obtain ⟨j, hj, ej⟩ := pk_andE (xs 0) (m := 31) 5 (by decide)
    refine lv_iand hx hb dL_law_44 ?_
    refine w_top (y := nI j) (ej) ?_
    have C6 : lw_At p s m meth c b 6 xs := ⟨hx, hb, hr, hml, hown, hts0, hX, hbl, hlocks, hgv⟩
    clear hs hts
    rcases (show j = 0 ∨ j = 1 ∨ j = 2 ∨ j = 3 ∨ j = 4 ∨ j = 5 ∨ j = 6 ∨ j = 7 ∨ j = 8 ∨ j = 9 ∨ j = 10 ∨ j = 11 ∨ j = 12 ∨ j = 13 ∨ j = 14 ∨ j = 15 ∨ j = 16 ∨ j = 17 ∨ j = 18 ∨ j = 19 ∨ j = 20 ∨ j = 21 ∨ j = 22 ∨ j = 23 ∨ j = 24 ∨ j = 25 ∨ j = 26 ∨ j = 27 ∨ j = 28 ∨ j = 29 ∨ j = 30 ∨ j = 31 by omega) with rfl | rfl | rfl | rfl | rfl | rfl | rfl | rfl | rfl | rfl | rfl | rfl | rfl | rfl | rfl | rfl | rfl | rfl | rfl | rfl | rfl | rfl | rfl | rfl | rfl | rfl | rfl | rfl | rfl | rfl | rfl | rfl
    · refine lv_tableIn (off := 123) (tgt := 168) hx hb dL_law_45 (by decide) (by decide) (by decide) (by decide) ?_
      refine W.widen (k := 100) (n := 20000) (Nat.le_of_ble_eq_true rfl) (Nat.le_of_ble_eq_true rfl) ?_
      exact law_c0 (to := q0) (mo := q8) (o := q17) (od := q21) (u0 := u1) (w0 := u4) hst C6 hA hAs hC hNc hHf hP hD hS (lv_sub hl [5, 4, 3, 2, 1, 0] rfl)
    · refine lv_tableIn (off := 222) (tgt := 267) hx hb dL_law_45 (by decide) (by decide) (by decide) (by decide) ?_
      refine W.widen (k := 100) (n := 20000) (Nat.le_of_ble_eq_true rfl) (Nat.le_of_ble_eq_true rfl) ?_
      exact law_c1 (to := q0) (mo := q8) (o := q17) (od := q21) (u0 := u1) (w0 := u4) hst C6 hA hAs hC hNc hHf hP hD hS (lv_sub hl [5, 4, 3, 2, 1, 0] rfl)
    · refine lv_tableIn (off := 321) (tgt := 366) hx hb dL_law_45 (by decide) (by decide) (by decide) (by decide) ?_
      refine W.widen (k := 100) (n := 20000) (Nat.le_of_ble_eq_true rfl) (Nat.le_of_ble_eq_true rfl) ?_
      exact law_c2 (to := q0) (mo := q8) (o := q17) (od := q21) (u0 := u1) (w0 := u4) hst C6 hA hAs hC hNc hHf hP hD hS (lv_sub hl [5, 4, 3, 2, 1, 0] rfl)
    · refine lv_tableIn (off := 377) (tgt := 422) hx hb dL_law_45 (by decide) (by decide) (by decide) (by decide) ?_
      refine W.widen (k := 100) (n := 20000) (Nat.le_of_ble_eq_true rfl) (Nat.le_of_ble_eq_true rfl) ?_
      exact law_c3 (to := q0) (mo := q8) (o := q17) (od := q21) (u0 := u1) (w0 := u4) hst C6 hA hAs hC hNc hHf hP hD hS (lv_sub hl [5, 4, 3, 2, 1, 0] rfl)
    · refine lv_tableIn (off := 471) (tgt := 516) hx hb dL_law_45 (by decide) (by decide) (by decide) (by decide) ?_
      refine W.widen (k := 100) (n := 20000) (Nat.le_of_ble_eq_true rfl) (Nat.le_of_ble_eq_true rfl) ?_
      exact law_c4 (to := q0) (mo := q8) (o := q17) (od := q21) (u0 := u1) (w0 := u4) hst C6 hA hAs hC hNc hHf hP hD hS (lv_sub hl [5, 4, 3, 2, 1, 0] rfl)
    · refine lv_tableIn (off := 484) (tgt := 529) hx hb dL_law_45 (by decide) (by decide) (by decide) (by decide) ?_
      refine W.widen (k := 100) (n := 20000) (Nat.le_of_ble_eq_true rfl) (Nat.le_of_ble_eq_true rfl) ?_
      exact law_c5 (to := q0) (mo := q8) (o := q17) (od := q21) (u0 := u1) (w0 := u4) hst C6 hA hAs hC hNc hHf hP hD hS (lv_sub hl [5, 4, 3, 2, 1, 0] rfl)
    · refine lv_tableIn (off := 583) (tgt := 628) hx hb dL_law_45 (by decide) (by decide) (by decide) (by decide) ?_
      refine W.widen (k := 100) (n := 20000) (Nat.le_of_ble_eq_true rfl) (Nat.le_of_ble_eq_true rfl) ?_
      exact law_c6 (to := q0) (mo := q8) (o := q17) (od := q21) (u0 := u1) (w0 := u4) hst C6 hA hAs hC hNc hHf hP hD hS (lv_sub hl [5, 4, 3, 2, 1, 0] rfl)
    · refine lv_tableIn (off := 675) (tgt := 720) hx hb dL_law_45 (by decide) (by decide) (by decide) (by decide) ?_
      refine W.widen (k := 100) (n := 20000) (Nat.le_of_ble_eq_true rfl) (Nat.le_of_ble_eq_true rfl) ?_
      exact law_c7 (to := q0) (mo := q8) (o := q17) (od := q21) (u0 := u1) (w0 := u4) hst C6 hA hAs hC hNc hHf hP hD hS (lv_sub hl [5, 4, 3, 2, 1, 0] rfl)
    · refine lv_tableIn (off := 731) (tgt := 776) hx hb dL_law_45 (by decide) (by decide) (by decide) (by decide) ?_
      refine W.widen (k := 100) (n := 20000) (Nat.le_of_ble_eq_true rfl) (Nat.le_of_ble_eq_true rfl) ?_
      exact law_c8 (to := q0) (mo := q8) (o := q17) (od := q21) (u0 := u1) (w0 := u4) hst C6 hA hAs hC hNc hHf hP hD hS (lv_sub hl [5, 4, 3, 2, 1, 0] rfl)
    · refine lv_tableIn (off := 772) (tgt := 817) hx hb dL_law_45 (by decide) (by decide) (by decide) (by decide) ?_
      refine W.widen (k := 100) (n := 20000) (Nat.le_of_ble_eq_true rfl) (Nat.le_of_ble_eq_true rfl) ?_
      exact law_c9 (to := q0) (mo := q8) (o := q17) (od := q21) (u0 := u1) (w0 := u4) hst C6 hA hAs hC hNc hHf hP hD hS (lv_sub hl [5, 4, 3, 2, 1, 0] rfl)
    · refine lv_tableIn (off := 864) (tgt := 909) hx hb dL_law_45 (by decide) (by decide) (by decide) (by decide) ?_
      refine W.widen (k := 100) (n := 20000) (Nat.le_of_ble_eq_true rfl) (Nat.le_of_ble_eq_true rfl) ?_
      exact law_c10 (to := q0) (mo := q8) (o := q17) (od := q21) (u0 := u1) (w0 := u4) hst C6 hA hAs hC hNc hHf hP hD hS (lv_sub hl [5, 4, 3, 2, 1, 0] rfl)
    · refine lv_tableIn (off := 984) (tgt := 1029) hx hb dL_law_45 (by decide) (by decide) (by decide) (by decide) ?_
      refine W.widen (k := 100) (n := 20000) (Nat.le_of_ble_eq_true rfl) (Nat.le_of_ble_eq_true rfl) ?_
      exact law_c11 (to := q0) (mo := q8) (o := q17) (od := q21) (u0 := u1) (w0 := u4) hst C6 hA hAs hC hNc hHf hP hD hS (lv_sub hl [5, 4, 3, 2, 1, 0] rfl)
    · refine lv_tableIn (off := 1066) (tgt := 1111) hx hb dL_law_45 (by decide) (by decide) (by decide) (by decide) ?_
      refine W.widen (k := 100) (n := 20000) (Nat.le_of_ble_eq_true rfl) (Nat.le_of_ble_eq_true rfl) ?_
      exact law_c12 (to := q0) (mo := q8) (o := q17) (od := q21) (u0 := u1) (w0 := u4) hst C6 hA hAs hC hNc hHf hP hD hS (lv_sub hl [5, 4, 3, 2, 1, 0] rfl)
    · refine lv_tableIn (off := 1160) (tgt := 1205) hx hb dL_law_45 (by decide) (by decide) (by decide) (by decide) ?_
      refine W.widen (k := 100) (n := 20000) (Nat.le_of_ble_eq_true rfl) (Nat.le_of_ble_eq_true rfl) ?_
      exact law_c13 (to := q0) (mo := q8) (o := q17) (od := q21) (u0 := u1) (w0 := u4) hst C6 hA hAs hC hNc hHf hP hD hS (lv_sub hl [5, 4, 3, 2, 1, 0] rfl)
    · refine lv_tableIn (off := 1216) (tgt := 1261) hx hb dL_law_45 (by decide) (by decide) (by decide) (by decide) ?_
      refine W.widen (k := 100) (n := 20000) (Nat.le_of_ble_eq_true rfl) (Nat.le_of_ble_eq_true rfl) ?_
      exact law_c14 (to := q0) (mo := q8) (o := q17) (od := q21) (u0 := u1) (w0 := u4) hst C6 hA hAs hC hNc hHf hP hD hS (lv_sub hl [5, 4, 3, 2, 1, 0] rfl)
    · refine lv_tableIn (off := 1271) (tgt := 1316) hx hb dL_law_45 (by decide) (by decide) (by decide) (by decide) ?_
      refine W.widen (k := 100) (n := 20000) (Nat.le_of_ble_eq_true rfl) (Nat.le_of_ble_eq_true rfl) ?_
      exact law_c15 (to := q0) (mo := q8) (o := q17) (od := q21) (u0 := u1) (w0 := u4) hst C6 hA hAs hC hNc hHf hP hD hS (lv_sub hl [5, 4, 3, 2, 1, 0] rfl)
    · refine lv_tableIn (off := 1326) (tgt := 1371) hx hb dL_law_45 (by decide) (by decide) (by decide) (by decide) ?_
      refine W.widen (k := 100) (n := 20000) (Nat.le_of_ble_eq_true rfl) (Nat.le_of_ble_eq_true rfl) ?_
      exact law_c16 (to := q0) (mo := q8) (o := q17) (od := q21) (u0 := u1) (w0 := u4) hst C6 hA hAs hC hNc hHf hP hD hS (lv_sub hl [5, 4, 3, 2, 1, 0] rfl)
    · refine lv_tableIn (off := 1406) (tgt := 1451) hx hb dL_law_45 (by decide) (by decide) (by decide) (by decide) ?_
      refine W.widen (k := 100) (n := 20000) (Nat.le_of_ble_eq_true rfl) (Nat.le_of_ble_eq_true rfl) ?_
      exact law_c17 (to := q0) (mo := q8) (o := q17) (od := q21) (u0 := u1) (w0 := u4) hst C6 hA hAs hC hNc hHf hP hD hS (lv_sub hl [5, 4, 3, 2, 1, 0] rfl)
    · refine lv_tableIn (off := 1462) (tgt := 1507) hx hb dL_law_45 (by decide) (by decide) (by decide) (by decide) ?_
      refine W.widen (k := 100) (n := 20000) (Nat.le_of_ble_eq_true rfl) (Nat.le_of_ble_eq_true rfl) ?_
      exact law_c18 (to := q0) (mo := q8) (o := q17) (od := q21) (u0 := u1) (w0 := u4) hst C6 hA hAs hC hNc hHf hP hD hS (lv_sub hl [5, 4, 3, 2, 1, 0] rfl)
    · refine lv_tableIn (off := 1566) (tgt := 1611) hx hb dL_law_45 (by decide) (by decide) (by decide) (by decide) ?_
      refine W.widen (k := 100) (n := 20000) (Nat.le_of_ble_eq_true rfl) (Nat.le_of_ble_eq_true rfl) ?_
      exact law_c19 (to := q0) (mo := q8) (o := q17) (od := q21) (u0 := u1) (w0 := u4) hst C6 hA hAs hC hNc hHf hP hD hS (lv_sub hl [5, 4, 3, 2, 1, 0] rfl)
    · refine lv_tableIn (off := 1670) (tgt := 1715) hx hb dL_law_45 (by decide) (by decide) (by decide) (by decide) ?_
      refine W.widen (k := 100) (n := 20000) (Nat.le_of_ble_eq_true rfl) (Nat.le_of_ble_eq_true rfl) ?_
      exact law_c20 (to := q0) (mo := q8) (o := q17) (od := q21) (u0 := u1) (w0 := u4) hst C6 hA hAs hC hNc hHf hP hD hS (lv_sub hl [5, 4, 3, 2, 1, 0] rfl)
    · refine lv_tableIn (off := 1774) (tgt := 1819) hx hb dL_law_45 (by decide) (by decide) (by decide) (by decide) ?_
      refine W.widen (k := 100) (n := 20000) (Nat.le_of_ble_eq_true rfl) (Nat.le_of_ble_eq_true rfl) ?_
      exact law_c21 (to := q0) (mo := q8) (o := q17) (od := q21) (u0 := u1) (w0 := u4) hst C6 hA hAs hC hNc hHf hP hD hS (lv_sub hl [5, 4, 3, 2, 1, 0] rfl)
    · refine lv_tableIn (off := 1787) (tgt := 1832) hx hb dL_law_45 (by decide) (by decide) (by decide) (by decide) ?_
      refine W.widen (k := 100) (n := 20000) (Nat.le_of_ble_eq_true rfl) (Nat.le_of_ble_eq_true rfl) ?_
      exact law_c22 (to := q0) (mo := q8) (o := q17) (od := q21) (u0 := u1) (w0 := u4) hst C6 hA hAs hC hNc hHf hP hD hS (lv_sub hl [5, 4, 3, 2, 1, 0] rfl)
    · refine lv_tableIn (off := 1843) (tgt := 1888) hx hb dL_law_45 (by decide) (by decide) (by decide) (by decide) ?_
      refine W.widen (k := 100) (n := 20000) (Nat.le_of_ble_eq_true rfl) (Nat.le_of_ble_eq_true rfl) ?_
      exact law_c23 (to := q0) (mo := q8) (o := q17) (od := q21) (u0 := u1) (w0 := u4) hst C6 hA hAs hC hNc hHf hP hD hS (lv_sub hl [5, 4, 3, 2, 1, 0] rfl)
    · refine lv_tableIn (off := 1857) (tgt := 1902) hx hb dL_law_45 (by decide) (by decide) (by decide) (by decide) ?_
      refine W.widen (k := 100) (n := 20000) (Nat.le_of_ble_eq_true rfl) (Nat.le_of_ble_eq_true rfl) ?_
      exact law_c24 (to := q0) (mo := q8) (o := q17) (od := q21) (u0 := u1) (w0 := u4) hst C6 hA hAs hC hNc hHf hP hD hS (lv_sub hl [5, 4, 3, 2, 1, 0] rfl)
    · refine lv_tableIn (off := 1923) (tgt := 1968) hx hb dL_law_45 (by decide) (by decide) (by decide) (by decide) ?_
      refine W.widen (k := 100) (n := 20000) (Nat.le_of_ble_eq_true rfl) (Nat.le_of_ble_eq_true rfl) ?_
      exact law_c25 (to := q0) (mo := q8) (o := q17) (od := q21) (u0 := u1) (w0 := u4) hst C6 hA hAs hC hNc hHf hP hD hS (lv_sub hl [5, 4, 3, 2, 1, 0] rfl)
    · refine lv_tableIn (off := 1988) (tgt := 2033) hx hb dL_law_45 (by decide) (by decide) (by decide) (by decide) ?_
      refine W.widen (k := 100) (n := 20000) (Nat.le_of_ble_eq_true rfl) (Nat.le_of_ble_eq_true rfl) ?_
      exact law_c26 (to := q0) (mo := q8) (o := q17) (od := q21) (u0 := u1) (w0 := u4) hst C6 hA hAs hC hNc hHf hP hD hS (lv_sub hl [5, 4, 3, 2, 1, 0] rfl)
    · refine lv_tableOut (tgt := 2046) hx hb dL_law_45 (by decide) (by decide) ?_
      refine W.widen (k := 100000) (n := 1000000) (Nat.le_of_ble_eq_true rfl) (Nat.le_of_ble_eq_true rfl) ?_
      exact law_end C6 hAs hS (lv_sub hl [5, 0] rfl)
    · refine lv_tableOut (tgt := 2046) hx hb dL_law_45 (by decide) (by decide) ?_
      refine W.widen (k := 100000) (n := 1000000) (Nat.le_of_ble_eq_true rfl) (Nat.le_of_ble_eq_true rfl) ?_
      exact law_end C6 hAs hS (lv_sub hl [5, 0] rfl)
    · refine lv_tableOut (tgt := 2046) hx hb dL_law_45 (by decide) (by decide) ?_
      refine W.widen (k := 100000) (n := 1000000) (Nat.le_of_ble_eq_true rfl) (Nat.le_of_ble_eq_true rfl) ?_
      exact law_end C6 hAs hS (lv_sub hl [5, 0] rfl)
    · refine lv_tableOut (tgt := 2046) hx hb dL_law_45 (by decide) (by decide) ?_
      refine W.widen (k := 100000) (n := 1000000) (Nat.le_of_ble_eq_true rfl) (Nat.le_of_ble_eq_true rfl) ?_
      exact law_end C6 hAs hS (lv_sub hl [5, 0] rfl)
    · refine lv_tableOut (tgt := 2046) hx hb dL_law_45 (by decide) (by decide) ?_
      refine W.widen (k := 100000) (n := 1000000) (Nat.le_of_ble_eq_true rfl) (Nat.le_of_ble_eq_true rfl) ?_
      exact law_end C6 hAs hS (lv_sub hl [5, 0] rfl)

set_option maxHeartbeats 4000000 in
theorem lw_walk (l : Launch) (hflags : l.flags = flags0) (b : Addr) (xs : List Int32) : MetFree l x (headSpec (Jvm.Cond.code x code maxLocals ret :: tables_1) room_1) (lw_P b xs) (fun _ _ _ _ _ => True) lw_Q := by
  refine MetFree.of_bodyS (code := code) (maxLocals := maxLocals) (ret := ret) (by decide) ?_ ?_
  · intro args s m h hn
    obtain ⟨meth, c, h1, h2, h3, h4, h5, h6, -, -⟩ := Cond.code_spec hn (atoms_spec (ws := Jvm.Cond.code x code maxLocals ret :: tables_1) h _ List.mem_cons_self)
    exact ⟨meth, c, h1, h2, h3, h4, h5, h6⟩
  · intro p e s m args below meth c s₁ B hml0 hP _
    obtain ⟨rfl, hx, hbd, hgv⟩ := hP
    obtain ⟨scr, harrAt, hlist, hof, hsmall⟩ := hx
    obtain ⟨hcb, hkn, -, -⟩ := State.arrayAt?_spec harrAt
    have hown : s.vm.findClass R_law = some m.cls := findClass_of_methodNamed B.named
    have hts0 : ∀ c ∈ (Jvm.Cond.code x code maxLocals ret :: tables_1), c.before #[Value.ref b] s = true := atoms_spec (ws := Jvm.Cond.code x code maxLocals ret :: tables_1) B.pre
    have hts : ∀ w ∈ lw_tbl, w.before #[Value.ref b] s = true := k2_hts_sels lw_privs (fun w hw => hts0 w (List.mem_cons_of_mem _ hw)) lw_privs_ok
    have hml : c.maxLocals = 9 := B.maxLocals_eq (hts0 _ List.mem_cons_self)
    have X₀ : Stand p l e room_1 s m #[Value.ref b] below meth c s₁ [] 0 0 := Stand.of_body B
    have hh0 : s₁.heap = s.heap := by rw [B.state]; rfl
    have hsz : scr.slots.size = xs.length := by rw [← Array.length_toList, hlist, List.length_map]
    have hval : ∀ j : Nat, j < xs.length → scr.slots[j]? = some (.int (xs.getD j 0)) := fun j hj => by
      rw [← Array.getElem?_toList, hlist]
      simp [hj]
    have hbl : b < s.heap.size := (Array.getElem?_eq_some_iff.mp hcb).1
    have hX : va_X b xs.length (fun j => xs.getD j 0) s s.heap := ⟨scr, hcb, hof, hkn, hsz, hval⟩
    have K : W p l e room_1 s m #[Value.ref b] below meth c s₁.heap [] 0 0 (lw_Z below #[Value.ref b] s) (entryFrame m ([Value.ref b] : List Value).toArray 9) := by
      rw [hh0]
      exact whole_start l hflags hbd ⟨B.exec, B.bytes, B.returns, hml, hown, hts, hX, hbl, B.notSynchronized, hgv⟩
    obtain ⟨t, a1, o, b1, b2, b3⟩ := K s₁ rfl X₀
    exact ⟨t, o, a1, b1, b2, b3⟩
theorem lw_pre_spec {args : Array Value} {s : State} (h : (Jvm.Cond.and given_1 narrow_1).before args s = true) (hr : rest_1_c.before args s = true) : ∃ (b : Addr) (xs : List Int32), lw_P b xs args s := by
  have hs := flat_of_before _ h
  have hq := flat_of_before _ hr
  have hc : (Cond.count 1).before args s = true := hs _ (by decide +kernel)
  have harr : (Cond.arrayOf (.arg 0) .int).before args s = true := hs _ (by decide +kernel)
  have hle : (Cond.le (.length (.arg 0)) (.int 6)).before args s = true := hs _ (by decide +kernel)
  have hlen : (Cond.isInt (.length (.arg 0))).before args s = true := hq _ (by decide +kernel)
  have hall : (Cond.all (.arg 0) (.isInt (.elem (.arg 0) (.index 0)))).before args s = true := hq _ (by decide +kernel)
  obtain ⟨b, xs, hb, hx⟩ := State.ints_of_pre rfl harr hlen hall
  have hsm : xs.length < 2 ^ 31 := hx.choose_spec.2.2.2
  have hev : (Term.length (.arg 0)).eval args s none [] s = some (.int xs.length.toInt32) := hx.length_eval hb
  have hv := Cond.le_ints hev (show (Term.int 6).eval args s none [] s = some (.int 6) from rfl)
  have hd : xs.length.toInt32 ≤ 6 := by
    simpa [Cond.before, Cond.holds, hv] using hle
  have hN : xs.length ≤ 6 := (Int32.ofNat_le_ofNat hsm (by decide)).mp (show Int32.ofNat xs.length ≤ Int32.ofNat 6 from hd)
  exact ⟨b, xs, Cond.one_arg hc (show args[0]? = some (.ref b) from hb), hx, hN, h⟩
theorem lw_comes (l : Launch) (hflags : l.flags = flags0) : Comes l x (Jvm.Cond.code x code maxLocals ret :: tables_1) room_1 (fun tb e args s => Calls_1 tb e args s ∧ rest_1 tb e args s ∧ Pre_1 tb e args s)
    (fun _ _ args s o t => lw_Q args s o t) := by
  intro p e ha hc hk s m args below hf hfit hheap happ hpre
  obtain ⟨b, xs, hP⟩ := lw_pre_spec hpre.2.2 hpre.2.1
  obtain ⟨k, o, h1, h2, h3, hQ⟩ := lw_walk l hflags b xs p e ha hc hk s m args below hf ((Spec.applies_iff_loose hf).mp happ).1 hP trivial
  exact ⟨k, o, h1, h2, h3, hQ⟩
theorem lw_frame {s t : State} {o : Outcome} {args : Array Value} (h : State.butDraws s t lw_cs (fun t1 => Framed s o t1 [] 600006 7302072)) :
    State.butDraws s t [Jvm.Choice.named "NaN.bits"] (fun t1 => Framed s o t1 (fieldLocs frame_1_writes args s ++ arrayLocs frame_1_arrays args s ++ staticLocs frame_1_statics s) 600006 7302072) := h
theorem lw_limb (L : Cond) (hL : ∀ (args : Array Value) (s t : State), L.after args s (.returned (some (.int 1))) t = true) :
    ArmFor flags0 classFile x code maxLocals ret World_1 tables_1 room_1 Calls_1 rest_1 Pre_1
      (fun tb e a s o t => postC L tb e a s o t ∧ State.butDraws s t [Jvm.Choice.named "NaN.bits"] (fun t1 => Framed s o t1 (fieldLocs frame_1_writes a s ++ arrayLocs frame_1_arrays a s ++ staticLocs frame_1_statics s) 600006 7302072)) := by
  intro l hflags _ _ p e ha hc hk s m args below hf hfit hheap happ hpre
  obtain ⟨k, o, h1, h2, h3, rfl, hF⟩ := lw_comes l hflags p e ha hc hk s m args below hf hfit hheap happ hpre
  exact ⟨k, _, h1, h2, h3, hL args s _, lw_frame hF⟩
theorem i_vc : Claimed_1_1 ∧ Claimed_1_2 := ⟨lw_limb limb_1_1 (fun args s t => by simp [limb_1_1, Cond.after, Cond.holds, Cond.value]), lw_limb limb_1_2 (fun args s t => Cond.after_iff.mpr (by
  first | (rw [show limb_1_2 = Cond.eq .result (.int 1) from rfl, Cond.eq_ints (x := 1) (y := 1) rfl rfl]; simp; done) | (simp [limb_1_2, Cond.value, Term.eval]; done)))⟩
